theorem dL_cell_0 : decode cL_cell 0 = .ok (.iload_n 1, 1) := by decide +kernel
theorem dL_cell_1 : decode cL_cell 1 = .ok (.aload_n 0, 1) := by decide +kernel
theorem dL_cell_2 : decode cL_cell 2 = .ok (.arraylength, 1) := by decide +kernel
theorem dL_cell_3 : decode cL_cell 3 = .ok (.if_icmp .ge 9, 3) := by decide +kernel
theorem dL_cell_6 : decode cL_cell 6 = .ok (.aload_n 0, 1) := by decide +kernel
theorem dL_cell_7 : decode cL_cell 7 = .ok (.iload_n 1, 1) := by decide +kernel
theorem dL_cell_8 : decode cL_cell 8 = .ok (.iaload, 1) := by decide +kernel
theorem dL_cell_9 : decode cL_cell 9 = .ok (.goto 15, 3) := by decide +kernel
theorem dL_cell_12 : decode cL_cell 12 = .ok (.sipush 7919, 3) := by decide +kernel
theorem dL_cell_15 : decode cL_cell 15 = .ok (.iload_n 1, 1) := by decide +kernel
theorem dL_cell_16 : decode cL_cell 16 = .ok (.iconst 3, 1) := by decide +kernel
theorem dL_cell_17 : decode cL_cell 17 = .ok (.iadd, 1) := by decide +kernel
theorem dL_cell_18 : decode cL_cell 18 = .ok (.imul, 1) := by decide +kernel
theorem dL_cell_19 : decode cL_cell 19 = .ok (.iload_n 1, 1) := by decide +kernel
theorem dL_cell_20 : decode cL_cell 20 = .ok (.bipush 11, 2) := by decide +kernel
theorem dL_cell_22 : decode cL_cell 22 = .ok (.iadd, 1) := by decide +kernel
theorem dL_cell_23 : decode cL_cell 23 = .ok (.imul, 1) := by decide +kernel
theorem dL_cell_24 : decode cL_cell 24 = .ok (.ireturn, 1) := by decide +kernel
theorem dL_low_0 : decode cL_low 0 = .ok (.iload_n 0, 1) := by decide +kernel
theorem dL_low_1 : decode cL_low 1 = .ok (.ldc 7, 2) := by decide +kernel
theorem dL_low_3 : decode cL_low 3 = .ok (.iand, 1) := by decide +kernel
theorem dL_low_4 : decode cL_low 4 = .ok (.iload_n 1, 1) := by decide +kernel
theorem dL_low_5 : decode cL_low 5 = .ok (.irem, 1) := by decide +kernel
theorem dL_low_6 : decode cL_low 6 = .ok (.ireturn, 1) := by decide +kernel
set_option maxRecDepth 20000 in
theorem ggL_sensors_L_cell : GoodIn wsL_sensors wsL_cell := goodIn_r _ [4] (by decide +kernel) (by decide +kernel)
set_option maxRecDepth 20000 in
theorem gL_sensors_L_cell : GoodIn wsL_sensors (va_wsS RL 8 yL_cell wsL_cell) := goodIn_app (goodIn_of _ (by decide +kernel)) ggL_sensors_L_cell
set_option maxRecDepth 20000 in
theorem ggL_sensors_L_low : GoodIn wsL_sensors wsL_low := goodIn_r _ [7, 8] (by decide +kernel) (by decide +kernel)
set_option maxRecDepth 20000 in
theorem gL_sensors_L_low : GoodIn wsL_sensors (va_wsS RL 14 yL_low wsL_low) := goodIn_app (goodIn_of _ (by decide +kernel)) ggL_sensors_L_low
set_option maxRecDepth 20000 in
theorem ggL_sensors_X4_addSensor : GoodIn wsL_sensors wsX4_addSensor := goodIn_r _ [13, 14, 15, 16, 17, 18, 19, 20, 12, 21, 22, 23, 24, 25, 26, 27, 28, 29, 30, 31, 32, 33, 34, 35, 36, 37, 38, 39, 40, 41, 42, 43, 44, 45, 46, 47, 48, 49, 50, 51, 52, 53, 54, 55, 56, 57, 58, 59, 60, 61, 62, 63, 64, 65, 66, 67, 68, 69, 70, 71, 72, 73, 74, 75, 76, 77, 78, 79, 80, 81, 82, 83, 84, 85, 86, 87, 88, 89, 90, 91, 92, 93, 94, 95, 96, 97, 98, 99, 100, 101, 102, 103, 104, 105, 106, 107] (by decide +kernel) (by decide +kernel)
set_option maxRecDepth 20000 in
theorem gL_sensors_X4_addSensor : GoodIn wsL_sensors (wsV RL 18 RX4 yX4_addSensor wsX4_addSensor) := goodIn_app (goodIn_of _ (by decide +kernel)) ggL_sensors_X4_addSensor
theorem dL_sensors_0 : decode cL_sensors 0 = .ok (.iconst 1, 1) := by decide +kernel
theorem dL_sensors_1 : decode cL_sensors 1 = .ok (.aload_n 1, 1) := by decide +kernel
theorem dL_sensors_2 : decode cL_sensors 2 = .ok (.iload_n 2, 1) := by decide +kernel
theorem dL_sensors_3 : decode cL_sensors 3 = .ok (.invokestatic 8, 3) := by decide +kernel
theorem dL_sensors_6 : decode cL_sensors 6 = .ok (.bipush 9, 2) := by decide +kernel
theorem dL_sensors_8 : decode cL_sensors 8 = .ok (.invokestatic 14, 3) := by decide +kernel
theorem dL_sensors_11 : decode cL_sensors 11 = .ok (.iadd, 1) := by decide +kernel
theorem dL_sensors_12 : decode cL_sensors 12 = .ok (.istore 4, 2) := by decide +kernel
theorem dL_sensors_14 : decode cL_sensors 14 = .ok (.iconst 0, 1) := by decide +kernel
theorem dL_sensors_15 : decode cL_sensors 15 = .ok (.istore 5, 2) := by decide +kernel
theorem dL_sensors_17 : decode cL_sensors 17 = .ok (.iload 5, 2) := by decide +kernel
theorem dL_sensors_19 : decode cL_sensors 19 = .ok (.iload 4, 2) := by decide +kernel
theorem dL_sensors_21 : decode cL_sensors 21 = .ok (.if_icmp .ge 155, 3) := by decide +kernel
theorem dL_sensors_24 : decode cL_sensors 24 = .ok (.aload_n 1, 1) := by decide +kernel
theorem dL_sensors_25 : decode cL_sensors 25 = .ok (.iload_n 2, 1) := by decide +kernel
theorem dL_sensors_26 : decode cL_sensors 26 = .ok (.iconst 1, 1) := by decide +kernel
theorem dL_sensors_27 : decode cL_sensors 27 = .ok (.iadd, 1) := by decide +kernel
theorem dL_sensors_28 : decode cL_sensors 28 = .ok (.iload 5, 2) := by decide +kernel
theorem dL_sensors_30 : decode cL_sensors 30 = .ok (.iadd, 1) := by decide +kernel
theorem dL_sensors_31 : decode cL_sensors 31 = .ok (.invokestatic 8, 3) := by decide +kernel
theorem dL_sensors_34 : decode cL_sensors 34 = .ok (.istore 6, 2) := by decide +kernel
theorem dL_sensors_36 : decode cL_sensors 36 = .ok (.aload_n 3, 1) := by decide +kernel
theorem dL_sensors_37 : decode cL_sensors 37 = .ok (.bipush 6, 2) := by decide +kernel
theorem dL_sensors_39 : decode cL_sensors 39 = .ok (.iload 5, 2) := by decide +kernel
theorem dL_sensors_41 : decode cL_sensors 41 = .ok (.imul, 1) := by decide +kernel
theorem dL_sensors_42 : decode cL_sensors 42 = .ok (.iload 6, 2) := by decide +kernel
theorem dL_sensors_44 : decode cL_sensors 44 = .ok (.bipush 100, 2) := by decide +kernel
theorem dL_sensors_46 : decode cL_sensors 46 = .ok (.invokestatic 14, 3) := by decide +kernel
theorem dL_sensors_49 : decode cL_sensors 49 = .ok (.iastore, 1) := by decide +kernel
theorem dL_sensors_50 : decode cL_sensors 50 = .ok (.aload_n 3, 1) := by decide +kernel
theorem dL_sensors_51 : decode cL_sensors 51 = .ok (.bipush 6, 2) := by decide +kernel
theorem dL_sensors_53 : decode cL_sensors 53 = .ok (.iload 5, 2) := by decide +kernel
theorem dL_sensors_55 : decode cL_sensors 55 = .ok (.imul, 1) := by decide +kernel
theorem dL_sensors_56 : decode cL_sensors 56 = .ok (.iconst 1, 1) := by decide +kernel
theorem dL_sensors_57 : decode cL_sensors 57 = .ok (.iadd, 1) := by decide +kernel
theorem dL_sensors_58 : decode cL_sensors 58 = .ok (.iload 6, 2) := by decide +kernel
theorem dL_sensors_60 : decode cL_sensors 60 = .ok (.bipush 7, 2) := by decide +kernel
theorem dL_sensors_62 : decode cL_sensors 62 = .ok (.ishr, 1) := by decide +kernel
theorem dL_sensors_63 : decode cL_sensors 63 = .ok (.bipush 100, 2) := by decide +kernel
theorem dL_sensors_65 : decode cL_sensors 65 = .ok (.invokestatic 14, 3) := by decide +kernel
theorem dL_sensors_68 : decode cL_sensors 68 = .ok (.iastore, 1) := by decide +kernel
theorem dL_sensors_69 : decode cL_sensors 69 = .ok (.aload_n 3, 1) := by decide +kernel
theorem dL_sensors_70 : decode cL_sensors 70 = .ok (.bipush 6, 2) := by decide +kernel
theorem dL_sensors_72 : decode cL_sensors 72 = .ok (.iload 5, 2) := by decide +kernel
theorem dL_sensors_74 : decode cL_sensors 74 = .ok (.imul, 1) := by decide +kernel
theorem dL_sensors_75 : decode cL_sensors 75 = .ok (.iconst 2, 1) := by decide +kernel
theorem dL_sensors_76 : decode cL_sensors 76 = .ok (.iadd, 1) := by decide +kernel
theorem dL_sensors_77 : decode cL_sensors 77 = .ok (.iload 6, 2) := by decide +kernel
theorem dL_sensors_79 : decode cL_sensors 79 = .ok (.bipush 14, 2) := by decide +kernel
theorem dL_sensors_81 : decode cL_sensors 81 = .ok (.ishr, 1) := by decide +kernel
theorem dL_sensors_82 : decode cL_sensors 82 = .ok (.iload 6, 2) := by decide +kernel
theorem dL_sensors_84 : decode cL_sensors 84 = .ok (.bipush 29, 2) := by decide +kernel
theorem dL_sensors_86 : decode cL_sensors 86 = .ok (.ishr, 1) := by decide +kernel
theorem dL_sensors_87 : decode cL_sensors 87 = .ok (.iconst 1, 1) := by decide +kernel
theorem dL_sensors_88 : decode cL_sensors 88 = .ok (.iand, 1) := by decide +kernel
theorem dL_sensors_89 : decode cL_sensors 89 = .ok (.ifCond .ne 8, 3) := by decide +kernel
theorem dL_sensors_92 : decode cL_sensors 92 = .ok (.bipush 120, 2) := by decide +kernel
theorem dL_sensors_94 : decode cL_sensors 94 = .ok (.goto 6, 3) := by decide +kernel
theorem dL_sensors_97 : decode cL_sensors 97 = .ok (.sipush 900, 3) := by decide +kernel
theorem dL_sensors_100 : decode cL_sensors 100 = .ok (.invokestatic 14, 3) := by decide +kernel
theorem dL_sensors_103 : decode cL_sensors 103 = .ok (.iastore, 1) := by decide +kernel
theorem dL_sensors_104 : decode cL_sensors 104 = .ok (.aload_n 3, 1) := by decide +kernel
theorem dL_sensors_105 : decode cL_sensors 105 = .ok (.bipush 6, 2) := by decide +kernel
theorem dL_sensors_107 : decode cL_sensors 107 = .ok (.iload 5, 2) := by decide +kernel
theorem dL_sensors_109 : decode cL_sensors 109 = .ok (.imul, 1) := by decide +kernel
theorem dL_sensors_110 : decode cL_sensors 110 = .ok (.iconst 3, 1) := by decide +kernel
theorem dL_sensors_111 : decode cL_sensors 111 = .ok (.iadd, 1) := by decide +kernel
theorem dL_sensors_112 : decode cL_sensors 112 = .ok (.iconst 1, 1) := by decide +kernel
theorem dL_sensors_113 : decode cL_sensors 113 = .ok (.iastore, 1) := by decide +kernel
theorem dL_sensors_114 : decode cL_sensors 114 = .ok (.aload_n 3, 1) := by decide +kernel
theorem dL_sensors_115 : decode cL_sensors 115 = .ok (.bipush 6, 2) := by decide +kernel
theorem dL_sensors_117 : decode cL_sensors 117 = .ok (.iload 5, 2) := by decide +kernel
theorem dL_sensors_119 : decode cL_sensors 119 = .ok (.imul, 1) := by decide +kernel
theorem dL_sensors_120 : decode cL_sensors 120 = .ok (.iconst 4, 1) := by decide +kernel
theorem dL_sensors_121 : decode cL_sensors 121 = .ok (.iadd, 1) := by decide +kernel
theorem dL_sensors_122 : decode cL_sensors 122 = .ok (.iconst 1, 1) := by decide +kernel
theorem dL_sensors_123 : decode cL_sensors 123 = .ok (.iastore, 1) := by decide +kernel
theorem dL_sensors_124 : decode cL_sensors 124 = .ok (.aload_n 3, 1) := by decide +kernel
theorem dL_sensors_125 : decode cL_sensors 125 = .ok (.bipush 6, 2) := by decide +kernel
theorem dL_sensors_127 : decode cL_sensors 127 = .ok (.iload 5, 2) := by decide +kernel
theorem dL_sensors_129 : decode cL_sensors 129 = .ok (.imul, 1) := by decide +kernel
theorem dL_sensors_130 : decode cL_sensors 130 = .ok (.iconst 5, 1) := by decide +kernel
theorem dL_sensors_131 : decode cL_sensors 131 = .ok (.iadd, 1) := by decide +kernel
theorem dL_sensors_132 : decode cL_sensors 132 = .ok (.iconst 0, 1) := by decide +kernel
theorem dL_sensors_133 : decode cL_sensors 133 = .ok (.iastore, 1) := by decide +kernel
theorem dL_sensors_134 : decode cL_sensors 134 = .ok (.aload_n 0, 1) := by decide +kernel
theorem dL_sensors_135 : decode cL_sensors 135 = .ok (.aload_n 3, 1) := by decide +kernel
theorem dL_sensors_136 : decode cL_sensors 136 = .ok (.bipush 6, 2) := by decide +kernel
theorem dL_sensors_138 : decode cL_sensors 138 = .ok (.iload 5, 2) := by decide +kernel
theorem dL_sensors_140 : decode cL_sensors 140 = .ok (.imul, 1) := by decide +kernel
theorem dL_sensors_141 : decode cL_sensors 141 = .ok (.iaload, 1) := by decide +kernel
theorem dL_sensors_142 : decode cL_sensors 142 = .ok (.aload_n 3, 1) := by decide +kernel
theorem dL_sensors_143 : decode cL_sensors 143 = .ok (.bipush 6, 2) := by decide +kernel
theorem dL_sensors_145 : decode cL_sensors 145 = .ok (.iload 5, 2) := by decide +kernel
theorem dL_sensors_147 : decode cL_sensors 147 = .ok (.imul, 1) := by decide +kernel
theorem dL_sensors_148 : decode cL_sensors 148 = .ok (.iconst 1, 1) := by decide +kernel
theorem dL_sensors_149 : decode cL_sensors 149 = .ok (.iadd, 1) := by decide +kernel
theorem dL_sensors_150 : decode cL_sensors 150 = .ok (.iaload, 1) := by decide +kernel
theorem dL_sensors_151 : decode cL_sensors 151 = .ok (.aload_n 3, 1) := by decide +kernel
theorem dL_sensors_152 : decode cL_sensors 152 = .ok (.bipush 6, 2) := by decide +kernel
theorem dL_sensors_154 : decode cL_sensors 154 = .ok (.iload 5, 2) := by decide +kernel
theorem dL_sensors_156 : decode cL_sensors 156 = .ok (.imul, 1) := by decide +kernel
theorem dL_sensors_157 : decode cL_sensors 157 = .ok (.iconst 2, 1) := by decide +kernel
theorem dL_sensors_158 : decode cL_sensors 158 = .ok (.iadd, 1) := by decide +kernel
theorem dL_sensors_159 : decode cL_sensors 159 = .ok (.iaload, 1) := by decide +kernel
theorem dL_sensors_160 : decode cL_sensors 160 = .ok (.invokevirtual 18, 3) := by decide +kernel
theorem dL_sensors_163 : decode cL_sensors 163 = .ok (.iload 5, 2) := by decide +kernel
theorem dL_sensors_165 : decode cL_sensors 165 = .ok (.if_icmp .eq 5, 3) := by decide +kernel
theorem dL_sensors_168 : decode cL_sensors 168 = .ok (.iconst (-1), 1) := by decide +kernel
theorem dL_sensors_169 : decode cL_sensors 169 = .ok (.ireturn, 1) := by decide +kernel
theorem dL_sensors_170 : decode cL_sensors 170 = .ok (.iinc 5 1, 3) := by decide +kernel
theorem dL_sensors_173 : decode cL_sensors 173 = .ok (.goto (-156), 3) := by decide +kernel
theorem dL_sensors_176 : decode cL_sensors 176 = .ok (.iload 4, 2) := by decide +kernel
theorem dL_sensors_178 : decode cL_sensors 178 = .ok (.ireturn, 1) := by decide +kernel
theorem dL_far_0 : decode cL_far 0 = .ok (.aload_n 0, 1) := by decide +kernel
theorem dL_far_1 : decode cL_far 1 = .ok (.bipush 6, 2) := by decide +kernel
theorem dL_far_3 : decode cL_far 3 = .ok (.iload_n 1, 1) := by decide +kernel
theorem dL_far_4 : decode cL_far 4 = .ok (.imul, 1) := by decide +kernel
theorem dL_far_5 : decode cL_far 5 = .ok (.iaload, 1) := by decide +kernel
theorem dL_far_6 : decode cL_far 6 = .ok (.aload_n 0, 1) := by decide +kernel
theorem dL_far_7 : decode cL_far 7 = .ok (.bipush 6, 2) := by decide +kernel
theorem dL_far_9 : decode cL_far 9 = .ok (.iload_n 2, 1) := by decide +kernel
theorem dL_far_10 : decode cL_far 10 = .ok (.imul, 1) := by decide +kernel
theorem dL_far_11 : decode cL_far 11 = .ok (.iaload, 1) := by decide +kernel
theorem dL_far_12 : decode cL_far 12 = .ok (.isub, 1) := by decide +kernel
theorem dL_far_13 : decode cL_far 13 = .ok (.istore_n 3, 1) := by decide +kernel
theorem dL_far_14 : decode cL_far 14 = .ok (.aload_n 0, 1) := by decide +kernel
theorem dL_far_15 : decode cL_far 15 = .ok (.bipush 6, 2) := by decide +kernel
theorem dL_far_17 : decode cL_far 17 = .ok (.iload_n 1, 1) := by decide +kernel
theorem dL_far_18 : decode cL_far 18 = .ok (.imul, 1) := by decide +kernel
theorem dL_far_19 : decode cL_far 19 = .ok (.iconst 1, 1) := by decide +kernel
theorem dL_far_20 : decode cL_far 20 = .ok (.iadd, 1) := by decide +kernel
theorem dL_far_21 : decode cL_far 21 = .ok (.iaload, 1) := by decide +kernel
theorem dL_far_22 : decode cL_far 22 = .ok (.aload_n 0, 1) := by decide +kernel
theorem dL_far_23 : decode cL_far 23 = .ok (.bipush 6, 2) := by decide +kernel
theorem dL_far_25 : decode cL_far 25 = .ok (.iload_n 2, 1) := by decide +kernel
theorem dL_far_26 : decode cL_far 26 = .ok (.imul, 1) := by decide +kernel
theorem dL_far_27 : decode cL_far 27 = .ok (.iconst 1, 1) := by decide +kernel
theorem dL_far_28 : decode cL_far 28 = .ok (.iadd, 1) := by decide +kernel
theorem dL_far_29 : decode cL_far 29 = .ok (.iaload, 1) := by decide +kernel
theorem dL_far_30 : decode cL_far 30 = .ok (.isub, 1) := by decide +kernel
theorem dL_far_31 : decode cL_far 31 = .ok (.istore 4, 2) := by decide +kernel
theorem dL_far_33 : decode cL_far 33 = .ok (.iload_n 3, 1) := by decide +kernel
theorem dL_far_34 : decode cL_far 34 = .ok (.iload_n 3, 1) := by decide +kernel
theorem dL_far_35 : decode cL_far 35 = .ok (.imul, 1) := by decide +kernel
theorem dL_far_36 : decode cL_far 36 = .ok (.iload 4, 2) := by decide +kernel
theorem dL_far_38 : decode cL_far 38 = .ok (.iload 4, 2) := by decide +kernel
theorem dL_far_40 : decode cL_far 40 = .ok (.imul, 1) := by decide +kernel
theorem dL_far_41 : decode cL_far 41 = .ok (.iadd, 1) := by decide +kernel
theorem dL_far_42 : decode cL_far 42 = .ok (.ireturn, 1) := by decide +kernel
set_option maxRecDepth 20000 in
theorem ggL_energy_X4_energyPaid : GoodIn wsL_energy wsX4_energyPaid := goodIn_r _ [5, 6, 7, 20, 21, 22, 23, 24, 25, 26, 27, 28, 29, 30, 31, 32, 33, 34, 35, 36, 37] (by decide +kernel) (by decide +kernel)
set_option maxRecDepth 20000 in
theorem gL_energy_X4_energyPaid : GoodIn wsL_energy (wsV RL 24 RX4 yX4_energyPaid wsX4_energyPaid) := goodIn_app (goodIn_of _ (by decide +kernel)) ggL_energy_X4_energyPaid
set_option maxRecDepth 20000 in
theorem ggL_energy_X4_battery : GoodIn wsL_energy wsX4_battery := goodIn_r _ [11, 6, 12, 13, 14, 15, 16, 17, 18, 19, 20, 21, 22, 23, 24, 25, 26, 27, 28, 29, 30, 31, 32, 33, 34, 35, 36, 37, 38, 39, 40, 41, 42, 43, 44, 45, 46, 47, 48] (by decide +kernel) (by decide +kernel)
set_option maxRecDepth 20000 in
theorem gL_energy_X4_battery : GoodIn wsL_energy (wsV RL 28 RX4 yX4_battery wsX4_battery) := goodIn_app (goodIn_of _ (by decide +kernel)) ggL_energy_X4_battery
theorem dL_energy_0 : decode cL_energy 0 = .ok (.aload_n 0, 1) := by decide +kernel
theorem dL_energy_1 : decode cL_energy 1 = .ok (.invokevirtual 24, 3) := by decide +kernel
theorem dL_energy_4 : decode cL_energy 4 = .ok (.istore_n 2, 1) := by decide +kernel
theorem dL_energy_5 : decode cL_energy 5 = .ok (.iconst 0, 1) := by decide +kernel
theorem dL_energy_6 : decode cL_energy 6 = .ok (.istore_n 3, 1) := by decide +kernel
theorem dL_energy_7 : decode cL_energy 7 = .ok (.iload_n 3, 1) := by decide +kernel
theorem dL_energy_8 : decode cL_energy 8 = .ok (.iload_n 1, 1) := by decide +kernel
theorem dL_energy_9 : decode cL_energy 9 = .ok (.if_icmp .ge 17, 3) := by decide +kernel
theorem dL_energy_12 : decode cL_energy 12 = .ok (.iload_n 2, 1) := by decide +kernel
theorem dL_energy_13 : decode cL_energy 13 = .ok (.aload_n 0, 1) := by decide +kernel
theorem dL_energy_14 : decode cL_energy 14 = .ok (.iload_n 3, 1) := by decide +kernel
theorem dL_energy_15 : decode cL_energy 15 = .ok (.invokevirtual 28, 3) := by decide +kernel
theorem dL_energy_18 : decode cL_energy 18 = .ok (.iadd, 1) := by decide +kernel
theorem dL_energy_19 : decode cL_energy 19 = .ok (.istore_n 2, 1) := by decide +kernel
theorem dL_energy_20 : decode cL_energy 20 = .ok (.iinc 3 1, 3) := by decide +kernel
theorem dL_energy_23 : decode cL_energy 23 = .ok (.goto (-16), 3) := by decide +kernel
theorem dL_energy_26 : decode cL_energy 26 = .ok (.iload_n 2, 1) := by decide +kernel
theorem dL_energy_27 : decode cL_energy 27 = .ok (.ireturn, 1) := by decide +kernel
set_option maxRecDepth 20000 in
theorem ggL_clusters_X4_headOf : GoodIn wsL_clusters wsX4_headOf := goodIn_r _ [5, 6, 7, 8, 9, 10, 11, 12, 13, 14, 44, 45, 46, 47, 48, 49, 50, 51, 52, 53, 54, 55, 56, 57, 58, 59, 60, 61, 62, 63, 64, 65, 66, 67, 68, 69, 70, 71, 72] (by decide +kernel) (by decide +kernel)
set_option maxRecDepth 20000 in
theorem gL_clusters_X4_headOf : GoodIn wsL_clusters (wsV RL 32 RX4 yX4_headOf wsX4_headOf) := goodIn_app (goodIn_of _ (by decide +kernel)) ggL_clusters_X4_headOf
set_option maxRecDepth 20000 in
theorem ggL_clusters_X4_slotOf : GoodIn wsL_clusters wsX4_slotOf := goodIn_r _ [18, 6, 7, 19, 9, 10, 11, 12, 13, 14, 44, 45, 46, 47, 48, 49, 50, 51, 52, 53, 54, 55, 56, 57, 58, 59, 60, 61, 62, 63, 64, 65, 66, 67, 68, 69, 70, 71, 72] (by decide +kernel) (by decide +kernel)
set_option maxRecDepth 20000 in
theorem gL_clusters_X4_slotOf : GoodIn wsL_clusters (wsV RL 35 RX4 yX4_slotOf wsX4_slotOf) := goodIn_app (goodIn_of _ (by decide +kernel)) ggL_clusters_X4_slotOf
set_option maxRecDepth 20000 in
theorem ggL_clusters_L_far : GoodIn wsL_clusters wsL_far := goodIn_r _ [23] (by decide +kernel) (by decide +kernel)
set_option maxRecDepth 20000 in
theorem gL_clusters_L_far : GoodIn wsL_clusters (va_wsS RL 38 yL_far wsL_far) := goodIn_app (goodIn_of _ (by decide +kernel)) ggL_clusters_L_far
set_option maxRecDepth 20000 in
theorem ggL_clusters_X4_deathRound : GoodIn wsL_clusters wsX4_deathRound := goodIn_r _ [27, 6, 7, 28, 9, 10, 11, 12, 13, 14, 44, 45, 46, 47, 48, 49, 50, 51, 52, 53, 54, 55, 56, 57, 58, 59, 60, 61, 62, 63, 64, 65, 66, 67, 68, 69, 70, 71, 72] (by decide +kernel) (by decide +kernel)
set_option maxRecDepth 20000 in
theorem gL_clusters_X4_deathRound : GoodIn wsL_clusters (wsV RL 42 RX4 yX4_deathRound wsX4_deathRound) := goodIn_app (goodIn_of _ (by decide +kernel)) ggL_clusters_X4_deathRound
set_option maxRecDepth 20000 in
theorem ggL_clusters_X4_isAlive : GoodIn wsL_clusters wsX4_isAlive := goodIn_r _ [32, 6, 7, 33, 9, 10, 11, 12, 13, 14, 44, 45, 46, 47, 48, 49, 50, 51, 52, 53, 54, 55, 56, 57, 58, 59, 60, 61, 62, 63, 64, 65, 66, 67, 68, 69, 70, 71, 72] (by decide +kernel) (by decide +kernel)
set_option maxRecDepth 20000 in
theorem gL_clusters_X4_isAlive : GoodIn wsL_clusters (wsV RL 45 RX4 yX4_isAlive wsX4_isAlive) := goodIn_app (goodIn_of _ (by decide +kernel)) ggL_clusters_X4_isAlive
set_option maxRecDepth 20000 in
theorem ggL_clusters_X4_roundNumber : GoodIn wsL_clusters wsX4_roundNumber := goodIn_r _ [37, 6, 38, 44, 45, 46, 47, 48, 49, 50, 51, 52, 53, 54, 55, 56, 57, 58, 59, 60, 61] (by decide +kernel) (by decide +kernel)
set_option maxRecDepth 20000 in
theorem gL_clusters_X4_roundNumber : GoodIn wsL_clusters (wsV RL 48 RX4 yX4_roundNumber wsX4_roundNumber) := goodIn_app (goodIn_of _ (by decide +kernel)) ggL_clusters_X4_roundNumber
set_option maxRecDepth 20000 in
theorem ggL_clusters_X4_headCount : GoodIn wsL_clusters wsX4_headCount := goodIn_r _ [42, 6, 43, 44, 45, 46, 47, 48, 49, 50, 51, 52, 53, 54, 55, 56, 57, 58, 59, 60, 61] (by decide +kernel) (by decide +kernel)
set_option maxRecDepth 20000 in
theorem gL_clusters_X4_headCount : GoodIn wsL_clusters (wsV RL 51 RX4 yX4_headCount wsX4_headCount) := goodIn_app (goodIn_of _ (by decide +kernel)) ggL_clusters_X4_headCount
theorem dL_clusters_0 : decode cL_clusters 0 = .ok (.iconst 0, 1) := by decide +kernel
theorem dL_clusters_1 : decode cL_clusters 1 = .ok (.istore_n 3, 1) := by decide +kernel
theorem dL_clusters_2 : decode cL_clusters 2 = .ok (.iconst 0, 1) := by decide +kernel
theorem dL_clusters_3 : decode cL_clusters 3 = .ok (.istore 4, 2) := by decide +kernel
theorem dL_clusters_5 : decode cL_clusters 5 = .ok (.iload 4, 2) := by decide +kernel
theorem dL_clusters_7 : decode cL_clusters 7 = .ok (.iload_n 2, 1) := by decide +kernel
theorem dL_clusters_8 : decode cL_clusters 8 = .ok (.if_icmp .ge 282, 3) := by decide +kernel
theorem dL_clusters_11 : decode cL_clusters 11 = .ok (.aload_n 0, 1) := by decide +kernel
theorem dL_clusters_12 : decode cL_clusters 12 = .ok (.iload 4, 2) := by decide +kernel
theorem dL_clusters_14 : decode cL_clusters 14 = .ok (.invokevirtual 32, 3) := by decide +kernel
theorem dL_clusters_17 : decode cL_clusters 17 = .ok (.istore 5, 2) := by decide +kernel
theorem dL_clusters_19 : decode cL_clusters 19 = .ok (.iload_n 3, 1) := by decide +kernel
theorem dL_clusters_20 : decode cL_clusters 20 = .ok (.iload 5, 2) := by decide +kernel
theorem dL_clusters_22 : decode cL_clusters 22 = .ok (.iload 4, 2) := by decide +kernel
theorem dL_clusters_24 : decode cL_clusters 24 = .ok (.if_icmp .ne 7, 3) := by decide +kernel
theorem dL_clusters_27 : decode cL_clusters 27 = .ok (.iconst 1, 1) := by decide +kernel
theorem dL_clusters_28 : decode cL_clusters 28 = .ok (.goto 4, 3) := by decide +kernel
theorem dL_clusters_31 : decode cL_clusters 31 = .ok (.iconst 0, 1) := by decide +kernel
theorem dL_clusters_32 : decode cL_clusters 32 = .ok (.iadd, 1) := by decide +kernel
theorem dL_clusters_33 : decode cL_clusters 33 = .ok (.istore_n 3, 1) := by decide +kernel
theorem dL_clusters_34 : decode cL_clusters 34 = .ok (.iload 5, 2) := by decide +kernel
theorem dL_clusters_36 : decode cL_clusters 36 = .ok (.ifCond .ge 24, 3) := by decide +kernel
theorem dL_clusters_39 : decode cL_clusters 39 = .ok (.iload 5, 2) := by decide +kernel
theorem dL_clusters_41 : decode cL_clusters 41 = .ok (.bipush (-9), 2) := by decide +kernel
theorem dL_clusters_43 : decode cL_clusters 43 = .ok (.if_icmp .ne 28, 3) := by decide +kernel
theorem dL_clusters_46 : decode cL_clusters 46 = .ok (.aload_n 0, 1) := by decide +kernel
theorem dL_clusters_47 : decode cL_clusters 47 = .ok (.iload 4, 2) := by decide +kernel
theorem dL_clusters_49 : decode cL_clusters 49 = .ok (.invokevirtual 35, 3) := by decide +kernel
theorem dL_clusters_52 : decode cL_clusters 52 = .ok (.bipush (-9), 2) := by decide +kernel
theorem dL_clusters_54 : decode cL_clusters 54 = .ok (.if_icmp .eq 19, 3) := by decide +kernel
theorem dL_clusters_57 : decode cL_clusters 57 = .ok (.goto 14, 3) := by decide +kernel
theorem dL_clusters_60 : decode cL_clusters 60 = .ok (.aload_n 0, 1) := by decide +kernel
theorem dL_clusters_61 : decode cL_clusters 61 = .ok (.iload 5, 2) := by decide +kernel
theorem dL_clusters_63 : decode cL_clusters 63 = .ok (.invokevirtual 32, 3) := by decide +kernel
theorem dL_clusters_66 : decode cL_clusters 66 = .ok (.iload 5, 2) := by decide +kernel
theorem dL_clusters_68 : decode cL_clusters 68 = .ok (.if_icmp .eq 5, 3) := by decide +kernel
theorem dL_clusters_71 : decode cL_clusters 71 = .ok (.iconst 0, 1) := by decide +kernel
theorem dL_clusters_72 : decode cL_clusters 72 = .ok (.ireturn, 1) := by decide +kernel
theorem dL_clusters_73 : decode cL_clusters 73 = .ok (.iload 5, 2) := by decide +kernel
theorem dL_clusters_75 : decode cL_clusters 75 = .ok (.ifCond .lt 147, 3) := by decide +kernel
theorem dL_clusters_78 : decode cL_clusters 78 = .ok (.iload 5, 2) := by decide +kernel
theorem dL_clusters_80 : decode cL_clusters 80 = .ok (.iload 4, 2) := by decide +kernel
theorem dL_clusters_82 : decode cL_clusters 82 = .ok (.if_icmp .eq 140, 3) := by decide +kernel
theorem dL_clusters_85 : decode cL_clusters 85 = .ok (.iconst 0, 1) := by decide +kernel
theorem dL_clusters_86 : decode cL_clusters 86 = .ok (.istore 6, 2) := by decide +kernel
theorem dL_clusters_88 : decode cL_clusters 88 = .ok (.iconst 0, 1) := by decide +kernel
theorem dL_clusters_89 : decode cL_clusters 89 = .ok (.istore 7, 2) := by decide +kernel
theorem dL_clusters_91 : decode cL_clusters 91 = .ok (.iload 7, 2) := by decide +kernel
theorem dL_clusters_93 : decode cL_clusters 93 = .ok (.iload_n 2, 1) := by decide +kernel
theorem dL_clusters_94 : decode cL_clusters 94 = .ok (.if_icmp .ge 112, 3) := by decide +kernel
theorem dL_clusters_97 : decode cL_clusters 97 = .ok (.aload_n 0, 1) := by decide +kernel
theorem dL_clusters_98 : decode cL_clusters 98 = .ok (.iload 7, 2) := by decide +kernel
theorem dL_clusters_100 : decode cL_clusters 100 = .ok (.invokevirtual 32, 3) := by decide +kernel
theorem dL_clusters_103 : decode cL_clusters 103 = .ok (.iload 7, 2) := by decide +kernel
theorem dL_clusters_105 : decode cL_clusters 105 = .ok (.if_icmp .ne 7, 3) := by decide +kernel
theorem dL_clusters_108 : decode cL_clusters 108 = .ok (.iconst 1, 1) := by decide +kernel
theorem dL_clusters_109 : decode cL_clusters 109 = .ok (.goto 4, 3) := by decide +kernel
theorem dL_clusters_112 : decode cL_clusters 112 = .ok (.iconst 0, 1) := by decide +kernel
theorem dL_clusters_113 : decode cL_clusters 113 = .ok (.istore 8, 2) := by decide +kernel
theorem dL_clusters_115 : decode cL_clusters 115 = .ok (.iload 8, 2) := by decide +kernel
theorem dL_clusters_117 : decode cL_clusters 117 = .ok (.ifCond .eq 50, 3) := by decide +kernel
theorem dL_clusters_120 : decode cL_clusters 120 = .ok (.aload_n 1, 1) := by decide +kernel
theorem dL_clusters_121 : decode cL_clusters 121 = .ok (.iload 4, 2) := by decide +kernel
theorem dL_clusters_123 : decode cL_clusters 123 = .ok (.iload 7, 2) := by decide +kernel
theorem dL_clusters_125 : decode cL_clusters 125 = .ok (.invokestatic 38, 3) := by decide +kernel
theorem dL_clusters_128 : decode cL_clusters 128 = .ok (.aload_n 1, 1) := by decide +kernel
theorem dL_clusters_129 : decode cL_clusters 129 = .ok (.iload 4, 2) := by decide +kernel
theorem dL_clusters_131 : decode cL_clusters 131 = .ok (.iload 5, 2) := by decide +kernel
theorem dL_clusters_133 : decode cL_clusters 133 = .ok (.invokestatic 38, 3) := by decide +kernel
theorem dL_clusters_136 : decode cL_clusters 136 = .ok (.if_icmp .lt 29, 3) := by decide +kernel
theorem dL_clusters_139 : decode cL_clusters 139 = .ok (.aload_n 1, 1) := by decide +kernel
theorem dL_clusters_140 : decode cL_clusters 140 = .ok (.iload 4, 2) := by decide +kernel
theorem dL_clusters_142 : decode cL_clusters 142 = .ok (.iload 7, 2) := by decide +kernel
theorem dL_clusters_144 : decode cL_clusters 144 = .ok (.invokestatic 38, 3) := by decide +kernel
theorem dL_clusters_147 : decode cL_clusters 147 = .ok (.aload_n 1, 1) := by decide +kernel
theorem dL_clusters_148 : decode cL_clusters 148 = .ok (.iload 4, 2) := by decide +kernel
theorem dL_clusters_150 : decode cL_clusters 150 = .ok (.iload 5, 2) := by decide +kernel
theorem dL_clusters_152 : decode cL_clusters 152 = .ok (.invokestatic 38, 3) := by decide +kernel
theorem dL_clusters_155 : decode cL_clusters 155 = .ok (.if_icmp .ne 12, 3) := by decide +kernel
theorem dL_clusters_158 : decode cL_clusters 158 = .ok (.iload 7, 2) := by decide +kernel
theorem dL_clusters_160 : decode cL_clusters 160 = .ok (.iload 5, 2) := by decide +kernel
theorem dL_clusters_162 : decode cL_clusters 162 = .ok (.if_icmp .ge 5, 3) := by decide +kernel
theorem dL_clusters_165 : decode cL_clusters 165 = .ok (.iconst 0, 1) := by decide +kernel
theorem dL_clusters_166 : decode cL_clusters 166 = .ok (.ireturn, 1) := by decide +kernel
theorem dL_clusters_167 : decode cL_clusters 167 = .ok (.iload 6, 2) := by decide +kernel
theorem dL_clusters_169 : decode cL_clusters 169 = .ok (.iload 7, 2) := by decide +kernel
theorem dL_clusters_171 : decode cL_clusters 171 = .ok (.iload 4, 2) := by decide +kernel
theorem dL_clusters_173 : decode cL_clusters 173 = .ok (.if_icmp .ge 23, 3) := by decide +kernel
theorem dL_clusters_176 : decode cL_clusters 176 = .ok (.iload 8, 2) := by decide +kernel
theorem dL_clusters_178 : decode cL_clusters 178 = .ok (.ifCond .ne 18, 3) := by decide +kernel
theorem dL_clusters_181 : decode cL_clusters 181 = .ok (.aload_n 0, 1) := by decide +kernel
theorem dL_clusters_182 : decode cL_clusters 182 = .ok (.iload 7, 2) := by decide +kernel
theorem dL_clusters_184 : decode cL_clusters 184 = .ok (.invokevirtual 32, 3) := by decide +kernel
theorem dL_clusters_187 : decode cL_clusters 187 = .ok (.iload 5, 2) := by decide +kernel
theorem dL_clusters_189 : decode cL_clusters 189 = .ok (.if_icmp .ne 7, 3) := by decide +kernel
theorem dL_clusters_192 : decode cL_clusters 192 = .ok (.iconst 1, 1) := by decide +kernel
theorem dL_clusters_193 : decode cL_clusters 193 = .ok (.goto 4, 3) := by decide +kernel
theorem dL_clusters_196 : decode cL_clusters 196 = .ok (.iconst 0, 1) := by decide +kernel
theorem dL_clusters_197 : decode cL_clusters 197 = .ok (.iadd, 1) := by decide +kernel
theorem dL_clusters_198 : decode cL_clusters 198 = .ok (.istore 6, 2) := by decide +kernel
theorem dL_clusters_200 : decode cL_clusters 200 = .ok (.iinc 7 1, 3) := by decide +kernel
theorem dL_clusters_203 : decode cL_clusters 203 = .ok (.goto (-112), 3) := by decide +kernel
theorem dL_clusters_206 : decode cL_clusters 206 = .ok (.aload_n 0, 1) := by decide +kernel
theorem dL_clusters_207 : decode cL_clusters 207 = .ok (.iload 4, 2) := by decide +kernel
theorem dL_clusters_209 : decode cL_clusters 209 = .ok (.invokevirtual 35, 3) := by decide +kernel
theorem dL_clusters_212 : decode cL_clusters 212 = .ok (.iload 6, 2) := by decide +kernel
theorem dL_clusters_214 : decode cL_clusters 214 = .ok (.if_icmp .eq 5, 3) := by decide +kernel
theorem dL_clusters_217 : decode cL_clusters 217 = .ok (.iconst 0, 1) := by decide +kernel
theorem dL_clusters_218 : decode cL_clusters 218 = .ok (.ireturn, 1) := by decide +kernel
theorem dL_clusters_219 : decode cL_clusters 219 = .ok (.goto 16, 3) := by decide +kernel
theorem dL_clusters_222 : decode cL_clusters 222 = .ok (.aload_n 0, 1) := by decide +kernel
theorem dL_clusters_223 : decode cL_clusters 223 = .ok (.iload 4, 2) := by decide +kernel
theorem dL_clusters_225 : decode cL_clusters 225 = .ok (.invokevirtual 35, 3) := by decide +kernel
theorem dL_clusters_228 : decode cL_clusters 228 = .ok (.bipush (-9), 2) := by decide +kernel
theorem dL_clusters_230 : decode cL_clusters 230 = .ok (.if_icmp .eq 5, 3) := by decide +kernel
theorem dL_clusters_233 : decode cL_clusters 233 = .ok (.iconst 0, 1) := by decide +kernel
theorem dL_clusters_234 : decode cL_clusters 234 = .ok (.ireturn, 1) := by decide +kernel
theorem dL_clusters_235 : decode cL_clusters 235 = .ok (.aload_n 0, 1) := by decide +kernel
theorem dL_clusters_236 : decode cL_clusters 236 = .ok (.iload 4, 2) := by decide +kernel
theorem dL_clusters_238 : decode cL_clusters 238 = .ok (.invokevirtual 42, 3) := by decide +kernel
theorem dL_clusters_241 : decode cL_clusters 241 = .ok (.bipush (-9), 2) := by decide +kernel
theorem dL_clusters_243 : decode cL_clusters 243 = .ok (.if_icmp .ne 7, 3) := by decide +kernel
theorem dL_clusters_246 : decode cL_clusters 246 = .ok (.iconst 1, 1) := by decide +kernel
theorem dL_clusters_247 : decode cL_clusters 247 = .ok (.goto 4, 3) := by decide +kernel
theorem dL_clusters_250 : decode cL_clusters 250 = .ok (.iconst 0, 1) := by decide +kernel
theorem dL_clusters_251 : decode cL_clusters 251 = .ok (.aload_n 0, 1) := by decide +kernel
theorem dL_clusters_252 : decode cL_clusters 252 = .ok (.iload 4, 2) := by decide +kernel
theorem dL_clusters_254 : decode cL_clusters 254 = .ok (.invokevirtual 45, 3) := by decide +kernel
theorem dL_clusters_257 : decode cL_clusters 257 = .ok (.iconst 1, 1) := by decide +kernel
theorem dL_clusters_258 : decode cL_clusters 258 = .ok (.if_icmp .ne 7, 3) := by decide +kernel
theorem dL_clusters_261 : decode cL_clusters 261 = .ok (.iconst 1, 1) := by decide +kernel
theorem dL_clusters_262 : decode cL_clusters 262 = .ok (.goto 4, 3) := by decide +kernel
theorem dL_clusters_265 : decode cL_clusters 265 = .ok (.iconst 0, 1) := by decide +kernel
theorem dL_clusters_266 : decode cL_clusters 266 = .ok (.if_icmp .ne 16, 3) := by decide +kernel
theorem dL_clusters_269 : decode cL_clusters 269 = .ok (.aload_n 0, 1) := by decide +kernel
theorem dL_clusters_270 : decode cL_clusters 270 = .ok (.iload 4, 2) := by decide +kernel
theorem dL_clusters_272 : decode cL_clusters 272 = .ok (.invokevirtual 42, 3) := by decide +kernel
theorem dL_clusters_275 : decode cL_clusters 275 = .ok (.aload_n 0, 1) := by decide +kernel
theorem dL_clusters_276 : decode cL_clusters 276 = .ok (.invokevirtual 48, 3) := by decide +kernel
theorem dL_clusters_279 : decode cL_clusters 279 = .ok (.if_icmp .lt 5, 3) := by decide +kernel
theorem dL_clusters_282 : decode cL_clusters 282 = .ok (.iconst 0, 1) := by decide +kernel
theorem dL_clusters_283 : decode cL_clusters 283 = .ok (.ireturn, 1) := by decide +kernel
theorem dL_clusters_284 : decode cL_clusters 284 = .ok (.iinc 4 1, 3) := by decide +kernel
theorem dL_clusters_287 : decode cL_clusters 287 = .ok (.goto (-282), 3) := by decide +kernel
theorem dL_clusters_290 : decode cL_clusters 290 = .ok (.aload_n 0, 1) := by decide +kernel
theorem dL_clusters_291 : decode cL_clusters 291 = .ok (.invokevirtual 51, 3) := by decide +kernel
theorem dL_clusters_294 : decode cL_clusters 294 = .ok (.iload_n 3, 1) := by decide +kernel
theorem dL_clusters_295 : decode cL_clusters 295 = .ok (.if_icmp .ne 7, 3) := by decide +kernel
theorem dL_clusters_298 : decode cL_clusters 298 = .ok (.iconst 1, 1) := by decide +kernel
theorem dL_clusters_299 : decode cL_clusters 299 = .ok (.goto 4, 3) := by decide +kernel
theorem dL_clusters_302 : decode cL_clusters 302 = .ok (.iconst 0, 1) := by decide +kernel
theorem dL_clusters_303 : decode cL_clusters 303 = .ok (.ireturn, 1) := by decide +kernel
