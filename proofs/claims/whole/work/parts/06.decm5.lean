theorem nd_D_oneStep_93 : decode nc_D_oneStep 93 = .ok (.aload_n 0, 1) := by decide +kernel
theorem nd_D_oneStep_94 : decode nc_D_oneStep 94 = .ok (.getfield 13, 3) := by decide +kernel
theorem nd_D_oneStep_97 : decode nc_D_oneStep 97 = .ok (.aload_n 0, 1) := by decide +kernel
theorem nd_D_oneStep_98 : decode nc_D_oneStep 98 = .ok (.getfield 128, 3) := by decide +kernel
theorem nd_D_oneStep_101 : decode nc_D_oneStep 101 = .ok (.aload_n 0, 1) := by decide +kernel
theorem nd_D_oneStep_102 : decode nc_D_oneStep 102 = .ok (.getfield 131, 3) := by decide +kernel
theorem nd_D_oneStep_105 : decode nc_D_oneStep 105 = .ok (.iastore, 1) := by decide +kernel
theorem nd_D_oneStep_106 : decode nc_D_oneStep 106 = .ok (.aload_n 0, 1) := by decide +kernel
theorem nd_D_oneStep_107 : decode nc_D_oneStep 107 = .ok (.aload_n 0, 1) := by decide +kernel
theorem nd_D_oneStep_108 : decode nc_D_oneStep 108 = .ok (.getfield 160, 3) := by decide +kernel
theorem nd_D_oneStep_111 : decode nc_D_oneStep 111 = .ok (.putfield 20, 3) := by decide +kernel
theorem nd_D_oneStep_114 : decode nc_D_oneStep 114 = .ok (.aload_n 0, 1) := by decide +kernel
theorem nd_D_oneStep_115 : decode nc_D_oneStep 115 = .ok (.aload_n 0, 1) := by decide +kernel
theorem nd_D_oneStep_116 : decode nc_D_oneStep 116 = .ok (.getfield 166, 3) := by decide +kernel
theorem nd_D_oneStep_119 : decode nc_D_oneStep 119 = .ok (.putfield 54, 3) := by decide +kernel
theorem nd_D_oneStep_122 : decode nc_D_oneStep 122 = .ok (.aload_n 0, 1) := by decide +kernel
theorem nd_D_oneStep_123 : decode nc_D_oneStep 123 = .ok (.aload_n 0, 1) := by decide +kernel
theorem nd_D_oneStep_124 : decode nc_D_oneStep 124 = .ok (.invokevirtual 90, 3) := by decide +kernel
theorem nd_D_oneStep_127 : decode nc_D_oneStep 127 = .ok (.putfield 51, 3) := by decide +kernel
theorem nd_D_oneStep_130 : decode nc_D_oneStep 130 = .ok (.aload_n 0, 1) := by decide +kernel
theorem nd_D_oneStep_131 : decode nc_D_oneStep 131 = .ok (.aload_n 0, 1) := by decide +kernel
theorem nd_D_oneStep_132 : decode nc_D_oneStep 132 = .ok (.getfield 16, 3) := by decide +kernel
theorem nd_D_oneStep_135 : decode nc_D_oneStep 135 = .ok (.putfield 26, 3) := by decide +kernel
theorem nd_D_oneStep_138 : decode nc_D_oneStep 138 = .ok (.aload_n 0, 1) := by decide +kernel
theorem nd_D_oneStep_139 : decode nc_D_oneStep 139 = .ok (.aload_n 0, 1) := by decide +kernel
theorem nd_D_oneStep_140 : decode nc_D_oneStep 140 = .ok (.getfield 140, 3) := by decide +kernel
theorem nd_D_oneStep_143 : decode nc_D_oneStep 143 = .ok (.putfield 16, 3) := by decide +kernel
theorem nd_D_oneStep_146 : decode nc_D_oneStep 146 = .ok (.iconst 0, 1) := by decide +kernel
theorem nd_D_oneStep_147 : decode nc_D_oneStep 147 = .ok (.ireturn, 1) := by decide +kernel
theorem nd_D_step_0 : decode nc_D_step 0 = .ok (.aload_n 0, 1) := by decide +kernel
theorem nd_D_step_1 : decode nc_D_step 1 = .ok (.iconst 0, 1) := by decide +kernel
theorem nd_D_step_2 : decode nc_D_step 2 = .ok (.putfield 23, 3) := by decide +kernel
theorem nd_D_step_5 : decode nc_D_step 5 = .ok (.aload_n 0, 1) := by decide +kernel
theorem nd_D_step_6 : decode nc_D_step 6 = .ok (.invokevirtual 206, 3) := by decide +kernel
theorem nd_D_step_9 : decode nc_D_step 9 = .ok (.ireturn, 1) := by decide +kernel
theorem nd_D_run_0 : decode nc_D_run 0 = .ok (.aload_n 0, 1) := by decide +kernel
theorem nd_D_run_1 : decode nc_D_run 1 = .ok (.iload_n 1, 1) := by decide +kernel
theorem nd_D_run_2 : decode nc_D_run 2 = .ok (.ifCond .lt 14, 3) := by decide +kernel
theorem nd_D_run_5 : decode nc_D_run 5 = .ok (.iload_n 1, 1) := by decide +kernel
theorem nd_D_run_6 : decode nc_D_run 6 = .ok (.sipush 5000, 3) := by decide +kernel
theorem nd_D_run_9 : decode nc_D_run 9 = .ok (.if_icmp .gt 7, 3) := by decide +kernel
theorem nd_D_run_12 : decode nc_D_run 12 = .ok (.iconst 1, 1) := by decide +kernel
theorem nd_D_run_13 : decode nc_D_run 13 = .ok (.goto 4, 3) := by decide +kernel
theorem nd_D_run_16 : decode nc_D_run 16 = .ok (.iconst 0, 1) := by decide +kernel
theorem nd_D_run_17 : decode nc_D_run 17 = .ok (.invokevirtual 67, 3) := by decide +kernel
theorem nd_D_run_20 : decode nc_D_run 20 = .ok (.ifCond .ne 5, 3) := by decide +kernel
theorem nd_D_run_23 : decode nc_D_run 23 = .ok (.iconst 0, 1) := by decide +kernel
theorem nd_D_run_24 : decode nc_D_run 24 = .ok (.ireturn, 1) := by decide +kernel
theorem nd_D_run_25 : decode nc_D_run 25 = .ok (.iconst 0, 1) := by decide +kernel
theorem nd_D_run_26 : decode nc_D_run 26 = .ok (.istore_n 2, 1) := by decide +kernel
theorem nd_D_run_27 : decode nc_D_run 27 = .ok (.iconst 0, 1) := by decide +kernel
theorem nd_D_run_28 : decode nc_D_run 28 = .ok (.istore_n 3, 1) := by decide +kernel
theorem nd_D_run_29 : decode nc_D_run 29 = .ok (.iload_n 3, 1) := by decide +kernel
theorem nd_D_run_30 : decode nc_D_run 30 = .ok (.iload_n 1, 1) := by decide +kernel
theorem nd_D_run_31 : decode nc_D_run 31 = .ok (.if_icmp .ge 24, 3) := by decide +kernel
theorem nd_D_run_34 : decode nc_D_run 34 = .ok (.aload_n 0, 1) := by decide +kernel
theorem nd_D_run_35 : decode nc_D_run 35 = .ok (.invokevirtual 206, 3) := by decide +kernel
theorem nd_D_run_38 : decode nc_D_run 38 = .ok (.ifCond .le 9, 3) := by decide +kernel
theorem nd_D_run_41 : decode nc_D_run 41 = .ok (.iload_n 2, 1) := by decide +kernel
theorem nd_D_run_42 : decode nc_D_run 42 = .ok (.iconst 1, 1) := by decide +kernel
theorem nd_D_run_43 : decode nc_D_run 43 = .ok (.iadd, 1) := by decide +kernel
theorem nd_D_run_44 : decode nc_D_run 44 = .ok (.goto 4, 3) := by decide +kernel
theorem nd_D_run_47 : decode nc_D_run 47 = .ok (.iload_n 2, 1) := by decide +kernel
theorem nd_D_run_48 : decode nc_D_run 48 = .ok (.istore_n 2, 1) := by decide +kernel
theorem nd_D_run_49 : decode nc_D_run 49 = .ok (.iinc 3 1, 3) := by decide +kernel
theorem nd_D_run_52 : decode nc_D_run 52 = .ok (.goto (-23), 3) := by decide +kernel
theorem nd_D_run_55 : decode nc_D_run 55 = .ok (.iload_n 2, 1) := by decide +kernel
theorem nd_D_run_56 : decode nc_D_run 56 = .ok (.ireturn, 1) := by decide +kernel
theorem nd_D_look_0 : decode nc_D_look 0 = .ok (.aload_n 0, 1) := by decide +kernel
theorem nd_D_look_1 : decode nc_D_look 1 = .ok (.iload_n 1, 1) := by decide +kernel
theorem nd_D_look_2 : decode nc_D_look 2 = .ok (.ifCond .lt 13, 3) := by decide +kernel
theorem nd_D_look_5 : decode nc_D_look 5 = .ok (.iload_n 1, 1) := by decide +kernel
theorem nd_D_look_6 : decode nc_D_look 6 = .ok (.bipush 10, 2) := by decide +kernel
theorem nd_D_look_8 : decode nc_D_look 8 = .ok (.if_icmp .gt 7, 3) := by decide +kernel
theorem nd_D_look_11 : decode nc_D_look 11 = .ok (.iconst 1, 1) := by decide +kernel
theorem nd_D_look_12 : decode nc_D_look 12 = .ok (.goto 4, 3) := by decide +kernel
theorem nd_D_look_15 : decode nc_D_look 15 = .ok (.iconst 0, 1) := by decide +kernel
theorem nd_D_look_16 : decode nc_D_look 16 = .ok (.invokevirtual 67, 3) := by decide +kernel
theorem nd_D_look_19 : decode nc_D_look 19 = .ok (.ifCond .ne 5, 3) := by decide +kernel
theorem nd_D_look_22 : decode nc_D_look 22 = .ok (.iconst 0, 1) := by decide +kernel
theorem nd_D_look_23 : decode nc_D_look 23 = .ok (.ireturn, 1) := by decide +kernel
theorem nd_D_look_24 : decode nc_D_look 24 = .ok (.iload_n 1, 1) := by decide +kernel
theorem nd_D_look_25 : decode nc_D_look 25 = .ok (.tableswitch 113 0 9 #[55, 60, 65, 70, 75, 80, 85, 98, 103, 108], 55) := by decide +kernel
theorem nd_D_look_80 : decode nc_D_look 80 = .ok (.aload_n 0, 1) := by decide +kernel
theorem nd_D_look_81 : decode nc_D_look 81 = .ok (.getfield 26, 3) := by decide +kernel
theorem nd_D_look_84 : decode nc_D_look 84 = .ok (.ireturn, 1) := by decide +kernel
theorem nd_D_look_85 : decode nc_D_look 85 = .ok (.aload_n 0, 1) := by decide +kernel
theorem nd_D_look_86 : decode nc_D_look 86 = .ok (.getfield 16, 3) := by decide +kernel
theorem nd_D_look_89 : decode nc_D_look 89 = .ok (.ireturn, 1) := by decide +kernel
theorem nd_D_look_90 : decode nc_D_look 90 = .ok (.aload_n 0, 1) := by decide +kernel
theorem nd_D_look_91 : decode nc_D_look 91 = .ok (.getfield 29, 3) := by decide +kernel
theorem nd_D_look_94 : decode nc_D_look 94 = .ok (.ireturn, 1) := by decide +kernel
theorem nd_D_look_95 : decode nc_D_look 95 = .ok (.aload_n 0, 1) := by decide +kernel
theorem nd_D_look_96 : decode nc_D_look 96 = .ok (.invokevirtual 163, 3) := by decide +kernel
theorem nd_D_look_99 : decode nc_D_look 99 = .ok (.ireturn, 1) := by decide +kernel
theorem nd_D_look_100 : decode nc_D_look 100 = .ok (.aload_n 0, 1) := by decide +kernel
theorem nd_D_look_101 : decode nc_D_look 101 = .ok (.getfield 45, 3) := by decide +kernel
theorem nd_D_look_104 : decode nc_D_look 104 = .ok (.ireturn, 1) := by decide +kernel
theorem nd_D_look_105 : decode nc_D_look 105 = .ok (.aload_n 0, 1) := by decide +kernel
theorem nd_D_look_106 : decode nc_D_look 106 = .ok (.getfield 48, 3) := by decide +kernel
theorem nd_D_look_109 : decode nc_D_look 109 = .ok (.ireturn, 1) := by decide +kernel
theorem nd_D_look_110 : decode nc_D_look 110 = .ok (.aload_n 0, 1) := by decide +kernel
theorem nd_D_look_111 : decode nc_D_look 111 = .ok (.getfield 51, 3) := by decide +kernel
theorem nd_D_look_114 : decode nc_D_look 114 = .ok (.ifCond .eq 7, 3) := by decide +kernel
theorem nd_D_look_117 : decode nc_D_look 117 = .ok (.iconst 1, 1) := by decide +kernel
theorem nd_D_look_118 : decode nc_D_look 118 = .ok (.goto 4, 3) := by decide +kernel
theorem nd_D_look_121 : decode nc_D_look 121 = .ok (.iconst 0, 1) := by decide +kernel
theorem nd_D_look_122 : decode nc_D_look 122 = .ok (.ireturn, 1) := by decide +kernel
theorem nd_D_look_123 : decode nc_D_look 123 = .ok (.aload_n 0, 1) := by decide +kernel
theorem nd_D_look_124 : decode nc_D_look 124 = .ok (.getfield 20, 3) := by decide +kernel
theorem nd_D_look_127 : decode nc_D_look 127 = .ok (.ireturn, 1) := by decide +kernel
theorem nd_D_look_128 : decode nc_D_look 128 = .ok (.aload_n 0, 1) := by decide +kernel
theorem nd_D_look_129 : decode nc_D_look 129 = .ok (.getfield 54, 3) := by decide +kernel
theorem nd_D_look_132 : decode nc_D_look 132 = .ok (.ireturn, 1) := by decide +kernel
theorem nd_D_look_133 : decode nc_D_look 133 = .ok (.aload_n 0, 1) := by decide +kernel
theorem nd_D_look_134 : decode nc_D_look 134 = .ok (.getfield 57, 3) := by decide +kernel
theorem nd_D_look_137 : decode nc_D_look 137 = .ok (.ireturn, 1) := by decide +kernel
theorem nd_D_look_138 : decode nc_D_look 138 = .ok (.aload_n 0, 1) := by decide +kernel
theorem nd_D_look_139 : decode nc_D_look 139 = .ok (.getfield 60, 3) := by decide +kernel
theorem nd_D_look_142 : decode nc_D_look 142 = .ok (.ireturn, 1) := by decide +kernel
