theorem dX1_audit_62 : decode cX1_audit 62 = .ok (.aload 6, 2) := by decide +kernel
theorem dX1_audit_64 : decode cX1_audit 64 = .ok (.iconst 1, 1) := by decide +kernel
theorem dX1_audit_65 : decode cX1_audit 65 = .ok (.iaload, 1) := by decide +kernel
theorem dX1_audit_66 : decode cX1_audit 66 = .ok (.bipush 99, 2) := by decide +kernel
theorem dX1_audit_68 : decode cX1_audit 68 = .ok (.if_icmp .le 9, 3) := by decide +kernel
theorem dX1_audit_71 : decode cX1_audit 71 = .ok (.aload 6, 2) := by decide +kernel
theorem dX1_audit_73 : decode cX1_audit 73 = .ok (.iconst 1, 1) := by decide +kernel
theorem dX1_audit_74 : decode cX1_audit 74 = .ok (.bipush 99, 2) := by decide +kernel
theorem dX1_audit_76 : decode cX1_audit 76 = .ok (.iastore, 1) := by decide +kernel
theorem dX1_audit_77 : decode cX1_audit 77 = .ok (.iinc 4 1, 3) := by decide +kernel
theorem dX1_audit_80 : decode cX1_audit 80 = .ok (.goto (-67), 3) := by decide +kernel
theorem dX1_audit_83 : decode cX1_audit 83 = .ok (.aload_n 0, 1) := by decide +kernel
theorem dX1_audit_84 : decode cX1_audit 84 = .ok (.iconst 0, 1) := by decide +kernel
theorem dX1_audit_85 : decode cX1_audit 85 = .ok (.anewarray 13, 3) := by decide +kernel
theorem dX1_audit_88 : decode cX1_audit 88 = .ok (.putfield 19, 3) := by decide +kernel
theorem dX1_audit_91 : decode cX1_audit 91 = .ok (.aload_n 0, 1) := by decide +kernel
theorem dX1_audit_92 : decode cX1_audit 92 = .ok (.dup, 1) := by decide +kernel
theorem dX1_audit_93 : decode cX1_audit 93 = .ok (.getfield 26, 3) := by decide +kernel
theorem dX1_audit_96 : decode cX1_audit 96 = .ok (.iload_n 1, 1) := by decide +kernel
theorem dX1_audit_97 : decode cX1_audit 97 = .ok (.iadd, 1) := by decide +kernel
theorem dX1_audit_98 : decode cX1_audit 98 = .ok (.putfield 26, 3) := by decide +kernel
theorem dX1_audit_101 : decode cX1_audit 101 = .ok (.iload_n 1, 1) := by decide +kernel
theorem dX1_audit_102 : decode cX1_audit 102 = .ok (.ireturn, 1) := by decide +kernel
set_option maxRecDepth 20000 in
theorem ggX1_pass_X1_audit : GoodIn wsX1_pass wsX1_audit := goodIn_r _ [7, 8, 2, 9, 10, 11, 12, 13, 14, 15] (by decide +kernel) (by decide +kernel)
set_option maxRecDepth 20000 in
theorem gX1_pass_X1_audit : GoodIn wsX1_pass (wsV RX1 32 RX1 yX1_audit wsX1_audit) := goodIn_app (goodIn_of _ (by decide +kernel)) ggX1_pass_X1_audit
theorem dX1_pass_0 : decode cX1_pass 0 = .ok (.iconst 0, 1) := by decide +kernel
theorem dX1_pass_1 : decode cX1_pass 1 = .ok (.istore_n 1, 1) := by decide +kernel
theorem dX1_pass_2 : decode cX1_pass 2 = .ok (.aload_n 0, 1) := by decide +kernel
theorem dX1_pass_3 : decode cX1_pass 3 = .ok (.getfield 29, 3) := by decide +kernel
theorem dX1_pass_6 : decode cX1_pass 6 = .ok (.iconst 1, 1) := by decide +kernel
theorem dX1_pass_7 : decode cX1_pass 7 = .ok (.iadd, 1) := by decide +kernel
theorem dX1_pass_8 : decode cX1_pass 8 = .ok (.bipush 7, 2) := by decide +kernel
theorem dX1_pass_10 : decode cX1_pass 10 = .ok (.irem, 1) := by decide +kernel
theorem dX1_pass_11 : decode cX1_pass 11 = .ok (.ifCond .ne 8, 3) := by decide +kernel
theorem dX1_pass_14 : decode cX1_pass 14 = .ok (.aload_n 0, 1) := by decide +kernel
theorem dX1_pass_15 : decode cX1_pass 15 = .ok (.invokevirtual 32, 3) := by decide +kernel
theorem dX1_pass_18 : decode cX1_pass 18 = .ok (.istore_n 1, 1) := by decide +kernel
theorem dX1_pass_19 : decode cX1_pass 19 = .ok (.aload_n 0, 1) := by decide +kernel
theorem dX1_pass_20 : decode cX1_pass 20 = .ok (.getfield 15, 3) := by decide +kernel
theorem dX1_pass_23 : decode cX1_pass 23 = .ok (.astore_n 2, 1) := by decide +kernel
theorem dX1_pass_24 : decode cX1_pass 24 = .ok (.aload_n 2, 1) := by decide +kernel
theorem dX1_pass_25 : decode cX1_pass 25 = .ok (.arraylength, 1) := by decide +kernel
theorem dX1_pass_26 : decode cX1_pass 26 = .ok (.istore_n 3, 1) := by decide +kernel
theorem dX1_pass_27 : decode cX1_pass 27 = .ok (.iconst 0, 1) := by decide +kernel
theorem dX1_pass_28 : decode cX1_pass 28 = .ok (.istore 4, 2) := by decide +kernel
theorem dX1_pass_30 : decode cX1_pass 30 = .ok (.iload 4, 2) := by decide +kernel
theorem dX1_pass_32 : decode cX1_pass 32 = .ok (.iload_n 3, 1) := by decide +kernel
theorem dX1_pass_33 : decode cX1_pass 33 = .ok (.if_icmp .ge 114, 3) := by decide +kernel
theorem dX1_pass_36 : decode cX1_pass 36 = .ok (.aload_n 2, 1) := by decide +kernel
theorem dX1_pass_37 : decode cX1_pass 37 = .ok (.iload 4, 2) := by decide +kernel
theorem dX1_pass_39 : decode cX1_pass 39 = .ok (.aaload, 1) := by decide +kernel
theorem dX1_pass_40 : decode cX1_pass 40 = .ok (.astore 5, 2) := by decide +kernel
theorem dX1_pass_42 : decode cX1_pass 42 = .ok (.aload 5, 2) := by decide +kernel
theorem dX1_pass_44 : decode cX1_pass 44 = .ok (.iconst 2, 1) := by decide +kernel
theorem dX1_pass_45 : decode cX1_pass 45 = .ok (.iaload, 1) := by decide +kernel
theorem dX1_pass_46 : decode cX1_pass 46 = .ok (.ifCond .le 36, 3) := by decide +kernel
theorem dX1_pass_49 : decode cX1_pass 49 = .ok (.aload 5, 2) := by decide +kernel
theorem dX1_pass_51 : decode cX1_pass 51 = .ok (.iconst 2, 1) := by decide +kernel
theorem dX1_pass_52 : decode cX1_pass 52 = .ok (.dup2, 1) := by decide +kernel
theorem dX1_pass_53 : decode cX1_pass 53 = .ok (.iaload, 1) := by decide +kernel
theorem dX1_pass_54 : decode cX1_pass 54 = .ok (.iconst 1, 1) := by decide +kernel
theorem dX1_pass_55 : decode cX1_pass 55 = .ok (.isub, 1) := by decide +kernel
theorem dX1_pass_56 : decode cX1_pass 56 = .ok (.iastore, 1) := by decide +kernel
theorem dX1_pass_57 : decode cX1_pass 57 = .ok (.aload 5, 2) := by decide +kernel
theorem dX1_pass_59 : decode cX1_pass 59 = .ok (.iconst 1, 1) := by decide +kernel
theorem dX1_pass_60 : decode cX1_pass 60 = .ok (.aload 5, 2) := by decide +kernel
theorem dX1_pass_62 : decode cX1_pass 62 = .ok (.iconst 1, 1) := by decide +kernel
theorem dX1_pass_63 : decode cX1_pass 63 = .ok (.iaload, 1) := by decide +kernel
theorem dX1_pass_64 : decode cX1_pass 64 = .ok (.iconst 3, 1) := by decide +kernel
theorem dX1_pass_65 : decode cX1_pass 65 = .ok (.if_icmp .ge 7, 3) := by decide +kernel
theorem dX1_pass_68 : decode cX1_pass 68 = .ok (.iconst 0, 1) := by decide +kernel
theorem dX1_pass_69 : decode cX1_pass 69 = .ok (.goto 9, 3) := by decide +kernel
theorem dX1_pass_72 : decode cX1_pass 72 = .ok (.aload 5, 2) := by decide +kernel
theorem dX1_pass_74 : decode cX1_pass 74 = .ok (.iconst 1, 1) := by decide +kernel
theorem dX1_pass_75 : decode cX1_pass 75 = .ok (.iaload, 1) := by decide +kernel
theorem dX1_pass_76 : decode cX1_pass 76 = .ok (.iconst 3, 1) := by decide +kernel
theorem dX1_pass_77 : decode cX1_pass 77 = .ok (.isub, 1) := by decide +kernel
theorem dX1_pass_78 : decode cX1_pass 78 = .ok (.iastore, 1) := by decide +kernel
theorem dX1_pass_79 : decode cX1_pass 79 = .ok (.goto 62, 3) := by decide +kernel
theorem dX1_pass_82 : decode cX1_pass 82 = .ok (.aload 5, 2) := by decide +kernel
theorem dX1_pass_84 : decode cX1_pass 84 = .ok (.iconst 1, 1) := by decide +kernel
theorem dX1_pass_85 : decode cX1_pass 85 = .ok (.iaload, 1) := by decide +kernel
theorem dX1_pass_86 : decode cX1_pass 86 = .ok (.ifCond .le 38, 3) := by decide +kernel
theorem dX1_pass_89 : decode cX1_pass 89 = .ok (.aload 5, 2) := by decide +kernel
theorem dX1_pass_91 : decode cX1_pass 91 = .ok (.iconst 1, 1) := by decide +kernel
theorem dX1_pass_92 : decode cX1_pass 92 = .ok (.iaload, 1) := by decide +kernel
theorem dX1_pass_93 : decode cX1_pass 93 = .ok (.istore 6, 2) := by decide +kernel
theorem dX1_pass_95 : decode cX1_pass 95 = .ok (.iload 6, 2) := by decide +kernel
theorem dX1_pass_97 : decode cX1_pass 97 = .ok (.ifCond .le 24, 3) := by decide +kernel
theorem dX1_pass_100 : decode cX1_pass 100 = .ok (.aload 5, 2) := by decide +kernel
theorem dX1_pass_102 : decode cX1_pass 102 = .ok (.iconst 0, 1) := by decide +kernel
theorem dX1_pass_103 : decode cX1_pass 103 = .ok (.iaload, 1) := by decide +kernel
theorem dX1_pass_104 : decode cX1_pass 104 = .ok (.ifCond .le 11, 3) := by decide +kernel
theorem dX1_pass_107 : decode cX1_pass 107 = .ok (.aload 5, 2) := by decide +kernel
theorem dX1_pass_109 : decode cX1_pass 109 = .ok (.iconst 0, 1) := by decide +kernel
theorem dX1_pass_110 : decode cX1_pass 110 = .ok (.dup2, 1) := by decide +kernel
theorem dX1_pass_111 : decode cX1_pass 111 = .ok (.iaload, 1) := by decide +kernel
theorem dX1_pass_112 : decode cX1_pass 112 = .ok (.iconst 1, 1) := by decide +kernel
theorem dX1_pass_113 : decode cX1_pass 113 = .ok (.isub, 1) := by decide +kernel
theorem dX1_pass_114 : decode cX1_pass 114 = .ok (.iastore, 1) := by decide +kernel
theorem dX1_pass_115 : decode cX1_pass 115 = .ok (.iinc 6 (-10), 3) := by decide +kernel
theorem dX1_pass_118 : decode cX1_pass 118 = .ok (.goto (-23), 3) := by decide +kernel
theorem dX1_pass_121 : decode cX1_pass 121 = .ok (.goto 20, 3) := by decide +kernel
theorem dX1_pass_124 : decode cX1_pass 124 = .ok (.aload 5, 2) := by decide +kernel
theorem dX1_pass_126 : decode cX1_pass 126 = .ok (.iconst 0, 1) := by decide +kernel
theorem dX1_pass_127 : decode cX1_pass 127 = .ok (.iaload, 1) := by decide +kernel
theorem dX1_pass_128 : decode cX1_pass 128 = .ok (.bipush 100, 2) := by decide +kernel
theorem dX1_pass_130 : decode cX1_pass 130 = .ok (.if_icmp .ge 11, 3) := by decide +kernel
theorem dX1_pass_133 : decode cX1_pass 133 = .ok (.aload 5, 2) := by decide +kernel
theorem dX1_pass_135 : decode cX1_pass 135 = .ok (.iconst 0, 1) := by decide +kernel
theorem dX1_pass_136 : decode cX1_pass 136 = .ok (.dup2, 1) := by decide +kernel
theorem dX1_pass_137 : decode cX1_pass 137 = .ok (.iaload, 1) := by decide +kernel
theorem dX1_pass_138 : decode cX1_pass 138 = .ok (.iconst 1, 1) := by decide +kernel
theorem dX1_pass_139 : decode cX1_pass 139 = .ok (.iadd, 1) := by decide +kernel
theorem dX1_pass_140 : decode cX1_pass 140 = .ok (.iastore, 1) := by decide +kernel
theorem dX1_pass_141 : decode cX1_pass 141 = .ok (.iinc 4 1, 3) := by decide +kernel
theorem dX1_pass_144 : decode cX1_pass 144 = .ok (.goto (-114), 3) := by decide +kernel
theorem dX1_pass_147 : decode cX1_pass 147 = .ok (.aload_n 0, 1) := by decide +kernel
theorem dX1_pass_148 : decode cX1_pass 148 = .ok (.dup, 1) := by decide +kernel
theorem dX1_pass_149 : decode cX1_pass 149 = .ok (.getfield 29, 3) := by decide +kernel
theorem dX1_pass_152 : decode cX1_pass 152 = .ok (.iconst 1, 1) := by decide +kernel
theorem dX1_pass_153 : decode cX1_pass 153 = .ok (.iadd, 1) := by decide +kernel
theorem dX1_pass_154 : decode cX1_pass 154 = .ok (.putfield 29, 3) := by decide +kernel
theorem dX1_pass_157 : decode cX1_pass 157 = .ok (.iload_n 1, 1) := by decide +kernel
theorem dX1_pass_158 : decode cX1_pass 158 = .ok (.ireturn, 1) := by decide +kernel
set_option maxRecDepth 20000 in
theorem ggX1_behind_X1_pass : GoodIn wsX1_behind wsX1_pass := goodIn_r _ [5, 6, 7, 8, 9, 10, 4, 11, 12, 13, 14, 15, 16, 17, 18, 19] (by decide +kernel) (by decide +kernel)
set_option maxRecDepth 20000 in
theorem gX1_behind_X1_pass : GoodIn wsX1_behind (wsV RX1 36 RX1 yX1_pass wsX1_pass) := goodIn_app (goodIn_of _ (by decide +kernel)) ggX1_behind_X1_pass
theorem dX1_behind_0 : decode cX1_behind 0 = .ok (.iconst 0, 1) := by decide +kernel
theorem dX1_behind_1 : decode cX1_behind 1 = .ok (.istore_n 2, 1) := by decide +kernel
theorem dX1_behind_2 : decode cX1_behind 2 = .ok (.iconst 0, 1) := by decide +kernel
theorem dX1_behind_3 : decode cX1_behind 3 = .ok (.istore_n 3, 1) := by decide +kernel
theorem dX1_behind_4 : decode cX1_behind 4 = .ok (.iload_n 3, 1) := by decide +kernel
theorem dX1_behind_5 : decode cX1_behind 5 = .ok (.iload_n 1, 1) := by decide +kernel
theorem dX1_behind_6 : decode cX1_behind 6 = .ok (.if_icmp .ge 16, 3) := by decide +kernel
theorem dX1_behind_9 : decode cX1_behind 9 = .ok (.iload_n 2, 1) := by decide +kernel
theorem dX1_behind_10 : decode cX1_behind 10 = .ok (.aload_n 0, 1) := by decide +kernel
theorem dX1_behind_11 : decode cX1_behind 11 = .ok (.invokevirtual 36, 3) := by decide +kernel
theorem dX1_behind_14 : decode cX1_behind 14 = .ok (.iadd, 1) := by decide +kernel
theorem dX1_behind_15 : decode cX1_behind 15 = .ok (.istore_n 2, 1) := by decide +kernel
theorem dX1_behind_16 : decode cX1_behind 16 = .ok (.iinc 3 1, 3) := by decide +kernel
theorem dX1_behind_19 : decode cX1_behind 19 = .ok (.goto (-15), 3) := by decide +kernel
theorem dX1_behind_22 : decode cX1_behind 22 = .ok (.iload_n 2, 1) := by decide +kernel
theorem dX1_behind_23 : decode cX1_behind 23 = .ok (.ireturn, 1) := by decide +kernel
theorem dX1_faults_0 : decode cX1_faults 0 = .ok (.iconst 0, 1) := by decide +kernel
theorem dX1_faults_1 : decode cX1_faults 1 = .ok (.istore_n 1, 1) := by decide +kernel
theorem dX1_faults_2 : decode cX1_faults 2 = .ok (.aload_n 0, 1) := by decide +kernel
theorem dX1_faults_3 : decode cX1_faults 3 = .ok (.getfield 19, 3) := by decide +kernel
theorem dX1_faults_6 : decode cX1_faults 6 = .ok (.astore_n 2, 1) := by decide +kernel
theorem dX1_faults_7 : decode cX1_faults 7 = .ok (.aload_n 2, 1) := by decide +kernel
theorem dX1_faults_8 : decode cX1_faults 8 = .ok (.arraylength, 1) := by decide +kernel
theorem dX1_faults_9 : decode cX1_faults 9 = .ok (.istore_n 3, 1) := by decide +kernel
theorem dX1_faults_10 : decode cX1_faults 10 = .ok (.iconst 0, 1) := by decide +kernel
theorem dX1_faults_11 : decode cX1_faults 11 = .ok (.istore 4, 2) := by decide +kernel
theorem dX1_faults_13 : decode cX1_faults 13 = .ok (.iload 4, 2) := by decide +kernel
theorem dX1_faults_15 : decode cX1_faults 15 = .ok (.iload_n 3, 1) := by decide +kernel
theorem dX1_faults_16 : decode cX1_faults 16 = .ok (.if_icmp .ge 30, 3) := by decide +kernel
theorem dX1_faults_19 : decode cX1_faults 19 = .ok (.aload_n 2, 1) := by decide +kernel
theorem dX1_faults_20 : decode cX1_faults 20 = .ok (.iload 4, 2) := by decide +kernel
theorem dX1_faults_22 : decode cX1_faults 22 = .ok (.aaload, 1) := by decide +kernel
theorem dX1_faults_23 : decode cX1_faults 23 = .ok (.astore 5, 2) := by decide +kernel
theorem dX1_faults_25 : decode cX1_faults 25 = .ok (.iload_n 1, 1) := by decide +kernel
theorem dX1_faults_26 : decode cX1_faults 26 = .ok (.aload 5, 2) := by decide +kernel
theorem dX1_faults_28 : decode cX1_faults 28 = .ok (.iconst 3, 1) := by decide +kernel
theorem dX1_faults_29 : decode cX1_faults 29 = .ok (.iaload, 1) := by decide +kernel
theorem dX1_faults_30 : decode cX1_faults 30 = .ok (.ifCond .le 7, 3) := by decide +kernel
theorem dX1_faults_33 : decode cX1_faults 33 = .ok (.iconst 1, 1) := by decide +kernel
theorem dX1_faults_34 : decode cX1_faults 34 = .ok (.goto 4, 3) := by decide +kernel
theorem dX1_faults_37 : decode cX1_faults 37 = .ok (.iconst 0, 1) := by decide +kernel
theorem dX1_faults_38 : decode cX1_faults 38 = .ok (.iadd, 1) := by decide +kernel
theorem dX1_faults_39 : decode cX1_faults 39 = .ok (.istore_n 1, 1) := by decide +kernel
theorem dX1_faults_40 : decode cX1_faults 40 = .ok (.iinc 4 1, 3) := by decide +kernel
theorem dX1_faults_43 : decode cX1_faults 43 = .ok (.goto (-30), 3) := by decide +kernel
theorem dX1_faults_46 : decode cX1_faults 46 = .ok (.iload_n 1, 1) := by decide +kernel
theorem dX1_faults_47 : decode cX1_faults 47 = .ok (.ireturn, 1) := by decide +kernel
theorem dX1_adds_0 : decode cX1_adds 0 = .ok (.iconst 0, 1) := by decide +kernel
theorem dX1_adds_1 : decode cX1_adds 1 = .ok (.istore_n 2, 1) := by decide +kernel
theorem dX1_adds_2 : decode cX1_adds 2 = .ok (.aload_n 0, 1) := by decide +kernel
theorem dX1_adds_3 : decode cX1_adds 3 = .ok (.getfield 19, 3) := by decide +kernel
theorem dX1_adds_6 : decode cX1_adds 6 = .ok (.astore_n 3, 1) := by decide +kernel
theorem dX1_adds_7 : decode cX1_adds 7 = .ok (.aload_n 3, 1) := by decide +kernel
theorem dX1_adds_8 : decode cX1_adds 8 = .ok (.arraylength, 1) := by decide +kernel
theorem dX1_adds_9 : decode cX1_adds 9 = .ok (.istore 4, 2) := by decide +kernel
theorem dX1_adds_11 : decode cX1_adds 11 = .ok (.iconst 0, 1) := by decide +kernel
theorem dX1_adds_12 : decode cX1_adds 12 = .ok (.istore 5, 2) := by decide +kernel
theorem dX1_adds_14 : decode cX1_adds 14 = .ok (.iload 5, 2) := by decide +kernel
theorem dX1_adds_16 : decode cX1_adds 16 = .ok (.iload 4, 2) := by decide +kernel
theorem dX1_adds_18 : decode cX1_adds 18 = .ok (.if_icmp .ge 35, 3) := by decide +kernel
theorem dX1_adds_21 : decode cX1_adds 21 = .ok (.aload_n 3, 1) := by decide +kernel
theorem dX1_adds_22 : decode cX1_adds 22 = .ok (.iload 5, 2) := by decide +kernel
theorem dX1_adds_24 : decode cX1_adds 24 = .ok (.aaload, 1) := by decide +kernel
theorem dX1_adds_25 : decode cX1_adds 25 = .ok (.astore 6, 2) := by decide +kernel
theorem dX1_adds_27 : decode cX1_adds 27 = .ok (.aload 6, 2) := by decide +kernel
theorem dX1_adds_29 : decode cX1_adds 29 = .ok (.iconst 0, 1) := by decide +kernel
theorem dX1_adds_30 : decode cX1_adds 30 = .ok (.iaload, 1) := by decide +kernel
theorem dX1_adds_31 : decode cX1_adds 31 = .ok (.iload_n 1, 1) := by decide +kernel
theorem dX1_adds_32 : decode cX1_adds 32 = .ok (.if_icmp .ne 15, 3) := by decide +kernel
theorem dX1_adds_35 : decode cX1_adds 35 = .ok (.iload_n 2, 1) := by decide +kernel
theorem dX1_adds_36 : decode cX1_adds 36 = .ok (.aload 6, 2) := by decide +kernel
theorem dX1_adds_38 : decode cX1_adds 38 = .ok (.iconst 3, 1) := by decide +kernel
theorem dX1_adds_39 : decode cX1_adds 39 = .ok (.iaload, 1) := by decide +kernel
theorem dX1_adds_40 : decode cX1_adds 40 = .ok (.aload 6, 2) := by decide +kernel
theorem dX1_adds_42 : decode cX1_adds 42 = .ok (.iconst 3, 1) := by decide +kernel
theorem dX1_adds_43 : decode cX1_adds 43 = .ok (.iaload, 1) := by decide +kernel
theorem dX1_adds_44 : decode cX1_adds 44 = .ok (.iadd, 1) := by decide +kernel
theorem dX1_adds_45 : decode cX1_adds 45 = .ok (.iadd, 1) := by decide +kernel
theorem dX1_adds_46 : decode cX1_adds 46 = .ok (.istore_n 2, 1) := by decide +kernel
theorem dX1_adds_47 : decode cX1_adds 47 = .ok (.iinc 5 1, 3) := by decide +kernel
theorem dX1_adds_50 : decode cX1_adds 50 = .ok (.goto (-36), 3) := by decide +kernel
theorem dX1_adds_53 : decode cX1_adds 53 = .ok (.iload_n 2, 1) := by decide +kernel
theorem dX1_adds_54 : decode cX1_adds 54 = .ok (.ireturn, 1) := by decide +kernel
set_option maxRecDepth 20000 in
theorem ggX1_isSame_X0_day : GoodIn wsX1_isSame wsX0_day := goodIn_r _ [10, 11, 131, 132, 133, 134, 135, 136, 137, 138, 139, 140, 141, 142, 143, 144] (by decide +kernel) (by decide +kernel)
set_option maxRecDepth 20000 in
theorem gX1_isSame_X0_day : GoodIn wsX1_isSame (wsV RX1 44 RX0 yX0_day wsX0_day) := goodIn_app (goodIn_of _ (by decide +kernel)) ggX1_isSame_X0_day
set_option maxRecDepth 20000 in
theorem ggX1_isSame_X0_members : GoodIn wsX1_isSame wsX0_members := goodIn_r _ [15, 16, 131, 132, 133, 134, 135, 136, 137, 138, 139, 140, 141, 142, 143, 144] (by decide +kernel) (by decide +kernel)
set_option maxRecDepth 20000 in
theorem gX1_isSame_X0_members : GoodIn wsX1_isSame (wsV RX1 48 RX0 yX0_members wsX0_members) := goodIn_app (goodIn_of _ (by decide +kernel)) ggX1_isSame_X0_members
set_option maxRecDepth 20000 in
theorem ggX1_isSame_X0_salt : GoodIn wsX1_isSame wsX0_salt := goodIn_r _ [20, 21, 131, 132, 133, 134, 135, 136, 137, 138, 139, 140, 141, 142, 143, 144] (by decide +kernel) (by decide +kernel)
set_option maxRecDepth 20000 in
theorem gX1_isSame_X0_salt : GoodIn wsX1_isSame (wsV RX1 50 RX0 yX0_salt wsX0_salt) := goodIn_app (goodIn_of _ (by decide +kernel)) ggX1_isSame_X0_salt
set_option maxRecDepth 20000 in
theorem ggX1_isSame_X0_ledger : GoodIn wsX1_isSame wsX0_ledger := goodIn_r _ [25, 26, 131, 132, 133, 134, 135, 136, 137, 138, 139, 140, 141, 142, 143, 144] (by decide +kernel) (by decide +kernel)
set_option maxRecDepth 20000 in
theorem gX1_isSame_X0_ledger : GoodIn wsX1_isSame (wsV RX1 52 RX0 yX0_ledger wsX0_ledger) := goodIn_app (goodIn_of _ (by decide +kernel)) ggX1_isSame_X0_ledger
set_option maxRecDepth 20000 in
theorem ggX1_isSame_X0_faults : GoodIn wsX1_isSame wsX0_faults := goodIn_r _ [30, 26, 31, 131, 132, 133, 134, 135, 136, 137, 138, 139, 140, 141, 142, 143, 144] (by decide +kernel) (by decide +kernel)
set_option maxRecDepth 20000 in
theorem gX1_isSame_X0_faults : GoodIn wsX1_isSame (wsV RX1 54 RX0 yX0_faults wsX0_faults) := goodIn_app (goodIn_of _ (by decide +kernel)) ggX1_isSame_X0_faults
set_option maxRecDepth 20000 in
theorem ggX1_isSame_X1_faults : GoodIn wsX1_isSame wsX1_faults := goodIn_r _ [36, 4, 126, 127, 128, 129, 130] (by decide +kernel) (by decide +kernel)
set_option maxRecDepth 20000 in
theorem gX1_isSame_X1_faults : GoodIn wsX1_isSame (wsV RX1 57 RX1 yX1_faults wsX1_faults) := goodIn_app (goodIn_of _ (by decide +kernel)) ggX1_isSame_X1_faults
set_option maxRecDepth 20000 in
theorem ggX1_isSame_X0_faultsFound : GoodIn wsX1_isSame wsX0_faultsFound := goodIn_r _ [40, 41, 131, 132, 133, 134, 135, 136, 137, 138, 139, 140, 141, 142, 143, 144] (by decide +kernel) (by decide +kernel)
set_option maxRecDepth 20000 in
theorem gX1_isSame_X0_faultsFound : GoodIn wsX1_isSame (wsV RX1 58 RX0 yX0_faultsFound wsX0_faultsFound) := goodIn_app (goodIn_of _ (by decide +kernel)) ggX1_isSame_X0_faultsFound
set_option maxRecDepth 20000 in
theorem ggX1_isSame_X0_memberOf : GoodIn wsX1_isSame wsX0_memberOf := goodIn_ca (goodIn_r _ [45, 46, 47, 48, 49, 9, 50, 51, 52, 26, 131, 132, 133, 134, 135, 136, 137, 138, 139, 140, 141, 142, 143, 144] (by decide +kernel) (by decide +kernel)) (goodIn_sub (fun _ h => List.mem_cons_of_mem _ (List.mem_append_right _ h)) (by decide +kernel))
set_option maxRecDepth 20000 in
theorem gX1_isSame_X0_memberOf : GoodIn wsX1_isSame (wsV RX1 61 RX0 yX0_memberOf wsX0_memberOf) := goodIn_app (goodIn_of _ (by decide +kernel)) ggX1_isSame_X0_memberOf
set_option maxRecDepth 20000 in
theorem ggX1_isSame_X0_isLeft : GoodIn wsX1_isSame wsX0_isLeft := goodIn_ca (goodIn_r _ [56, 57, 47, 48, 49, 9, 50, 51, 52, 26, 131, 132, 133, 134, 135, 136, 137, 138, 139, 140, 141, 142, 143, 144] (by decide +kernel) (by decide +kernel)) (goodIn_sub (fun _ h => List.mem_cons_of_mem _ (List.mem_append_right _ h)) (by decide +kernel))
set_option maxRecDepth 20000 in
theorem gX1_isSame_X0_isLeft : GoodIn wsX1_isSame (wsV RX1 65 RX0 yX0_isLeft wsX0_isLeft) := goodIn_app (goodIn_of _ (by decide +kernel)) ggX1_isSame_X0_isLeft
set_option maxRecDepth 20000 in
theorem ggX1_isSame_X0_grainsOf : GoodIn wsX1_isSame wsX0_grainsOf := goodIn_ca (goodIn_r _ [61, 62, 47, 48, 49, 9, 50, 51, 52, 26, 131, 132, 133, 134, 135, 136, 137, 138, 139, 140, 141, 142, 143, 144] (by decide +kernel) (by decide +kernel)) (goodIn_sub (fun _ h => List.mem_cons_of_mem _ (List.mem_append_right _ h)) (by decide +kernel))
set_option maxRecDepth 20000 in
theorem gX1_isSame_X0_grainsOf : GoodIn wsX1_isSame (wsV RX1 69 RX0 yX0_grainsOf wsX0_grainsOf) := goodIn_app (goodIn_of _ (by decide +kernel)) ggX1_isSame_X0_grainsOf
set_option maxRecDepth 20000 in
theorem ggX1_isSame_X0_excessOf : GoodIn wsX1_isSame wsX0_excessOf := goodIn_ca (goodIn_r _ [66, 31, 47, 48, 49, 9, 50, 51, 52, 26, 131, 132, 133, 134, 135, 136, 137, 138, 139, 140, 141, 142, 143, 144] (by decide +kernel) (by decide +kernel)) (goodIn_sub (fun _ h => List.mem_cons_of_mem _ (List.mem_append_right _ h)) (by decide +kernel))
set_option maxRecDepth 20000 in
theorem gX1_isSame_X0_excessOf : GoodIn wsX1_isSame (wsV RX1 72 RX0 yX0_excessOf wsX0_excessOf) := goodIn_app (goodIn_of _ (by decide +kernel)) ggX1_isSame_X0_excessOf
set_option maxRecDepth 20000 in
theorem ggX1_isSame_X0_luckOf : GoodIn wsX1_isSame wsX0_luckOf := goodIn_ca (goodIn_r _ [70, 71, 72, 73, 74, 9, 75, 51, 52, 16, 131, 132, 133, 134, 135, 136, 137, 138, 139, 140, 141, 142, 143, 144] (by decide +kernel) (by decide +kernel)) (goodIn_sub (fun _ h => List.mem_cons_of_mem _ (List.mem_append_right _ h)) (by decide +kernel))
set_option maxRecDepth 20000 in
theorem gX1_isSame_X0_luckOf : GoodIn wsX1_isSame (wsV RX1 75 RX0 yX0_luckOf wsX0_luckOf) := goodIn_app (goodIn_of _ (by decide +kernel)) ggX1_isSame_X0_luckOf
set_option maxRecDepth 20000 in
theorem ggX1_isSame_X0_arrearsOf : GoodIn wsX1_isSame wsX0_arrearsOf := goodIn_ca (goodIn_r _ [79, 80, 72, 73, 74, 9, 75, 51, 52, 16, 131, 132, 133, 134, 135, 136, 137, 138, 139, 140, 141, 142, 143, 144] (by decide +kernel) (by decide +kernel)) (goodIn_sub (fun _ h => List.mem_cons_of_mem _ (List.mem_append_right _ h)) (by decide +kernel))
set_option maxRecDepth 20000 in
theorem gX1_isSame_X0_arrearsOf : GoodIn wsX1_isSame (wsV RX1 78 RX0 yX0_arrearsOf wsX0_arrearsOf) := goodIn_app (goodIn_of _ (by decide +kernel)) ggX1_isSame_X0_arrearsOf
set_option maxRecDepth 20000 in
theorem ggX1_isSame_X0_lumpsOf : GoodIn wsX1_isSame wsX0_lumpsOf := goodIn_ca (goodIn_r _ [84, 85, 72, 73, 74, 9, 75, 51, 52, 16, 131, 132, 133, 134, 135, 136, 137, 138, 139, 140, 141, 142, 143, 144] (by decide +kernel) (by decide +kernel)) (goodIn_sub (fun _ h => List.mem_cons_of_mem _ (List.mem_append_right _ h)) (by decide +kernel))
set_option maxRecDepth 20000 in
theorem gX1_isSame_X0_lumpsOf : GoodIn wsX1_isSame (wsV RX1 81 RX0 yX0_lumpsOf wsX0_lumpsOf) := goodIn_app (goodIn_of _ (by decide +kernel)) ggX1_isSame_X0_lumpsOf
set_option maxRecDepth 20000 in
theorem ggX1_isSame_X0_dailyLoss : GoodIn wsX1_isSame wsX0_dailyLoss := goodIn_ca (goodIn_r _ [89, 72, 73, 74, 9, 75, 51, 52, 16, 90, 91, 92, 93, 85, 80, 131, 132, 133, 134, 135, 136, 137, 138, 139, 140, 141, 142, 143, 144] (by decide +kernel) (by decide +kernel)) (goodIn_sub (fun _ h => List.mem_cons_of_mem _ (List.mem_append_right _ h)) (by decide +kernel))
set_option maxRecDepth 20000 in
theorem gX1_isSame_X0_dailyLoss : GoodIn wsX1_isSame (wsV RX1 84 RX0 yX0_dailyLoss wsX0_dailyLoss) := goodIn_app (goodIn_of _ (by decide +kernel)) ggX1_isSame_X0_dailyLoss
set_option maxRecDepth 20000 in
theorem ggX1_isSame_X0_arrearsByAudit : GoodIn wsX1_isSame wsX0_arrearsByAudit := goodIn_ca (goodIn_r _ [97, 72, 73, 74, 9, 75, 51, 52, 16, 98, 99, 100, 101, 26, 46, 31, 131, 132, 133, 134, 135, 136, 137, 138, 139, 140, 141, 142, 143, 144] (by decide +kernel) (by decide +kernel)) (goodIn_sub (fun _ h => List.mem_cons_of_mem _ (List.mem_append_right _ h)) (by decide +kernel))
set_option maxRecDepth 20000 in
theorem gX1_isSame_X0_arrearsByAudit : GoodIn wsX1_isSame (wsV RX1 87 RX0 yX0_arrearsByAudit wsX0_arrearsByAudit) := goodIn_app (goodIn_of _ (by decide +kernel)) ggX1_isSame_X0_arrearsByAudit
set_option maxRecDepth 20000 in
theorem ggX1_isSame_X1_adds : GoodIn wsX1_isSame wsX1_adds := goodIn_r _ [105, 4, 126, 127, 128, 129, 130] (by decide +kernel) (by decide +kernel)
set_option maxRecDepth 20000 in
theorem gX1_isSame_X1_adds : GoodIn wsX1_isSame (wsV RX1 90 RX1 yX1_adds wsX1_adds) := goodIn_app (goodIn_of _ (by decide +kernel)) ggX1_isSame_X1_adds
set_option maxRecDepth 20000 in
theorem ggX1_isSame_X0_luckiest : GoodIn wsX1_isSame wsX0_luckiest := goodIn_r _ [109, 16, 71, 131, 132, 133, 134, 135, 136, 137, 138, 139, 140, 141, 142, 143, 144] (by decide +kernel) (by decide +kernel)
set_option maxRecDepth 20000 in
theorem gX1_isSame_X0_luckiest : GoodIn wsX1_isSame (wsV RX1 93 RX0 yX0_luckiest wsX0_luckiest) := goodIn_app (goodIn_of _ (by decide +kernel)) ggX1_isSame_X0_luckiest
set_option maxRecDepth 20000 in
theorem ggX1_isSame_X0_allArrears : GoodIn wsX1_isSame wsX0_allArrears := goodIn_r _ [113, 16, 80, 131, 132, 133, 134, 135, 136, 137, 138, 139, 140, 141, 142, 143, 144] (by decide +kernel) (by decide +kernel)
set_option maxRecDepth 20000 in
theorem gX1_isSame_X0_allArrears : GoodIn wsX1_isSame (wsV RX1 96 RX0 yX0_allArrears wsX0_allArrears) := goodIn_app (goodIn_of _ (by decide +kernel)) ggX1_isSame_X0_allArrears
set_option maxRecDepth 20000 in
theorem ggX1_isSame_X0_clearMembers : GoodIn wsX1_isSame wsX0_clearMembers := goodIn_r _ [117, 16, 80, 131, 132, 133, 134, 135, 136, 137, 138, 139, 140, 141, 142, 143, 144] (by decide +kernel) (by decide +kernel)
set_option maxRecDepth 20000 in
theorem gX1_isSame_X0_clearMembers : GoodIn wsX1_isSame (wsV RX1 99 RX0 yX0_clearMembers wsX0_clearMembers) := goodIn_app (goodIn_of _ (by decide +kernel)) ggX1_isSame_X0_clearMembers
set_option maxRecDepth 20000 in
theorem ggX1_isSame_X0_daysUntilAudit : GoodIn wsX1_isSame wsX0_daysUntilAudit := goodIn_r _ [121, 11, 131, 132, 133, 134, 135, 136, 137, 138, 139, 140, 141, 142, 143, 144] (by decide +kernel) (by decide +kernel)
set_option maxRecDepth 20000 in
theorem gX1_isSame_X0_daysUntilAudit : GoodIn wsX1_isSame (wsV RX1 102 RX0 yX0_daysUntilAudit wsX0_daysUntilAudit) := goodIn_app (goodIn_of _ (by decide +kernel)) ggX1_isSame_X0_daysUntilAudit
set_option maxRecDepth 20000 in
theorem ggX1_isSame_X0_meanLuck : GoodIn wsX1_isSame wsX0_meanLuck := goodIn_r _ [125, 16, 71, 131, 132, 133, 134, 135, 136, 137, 138, 139, 140, 141, 142, 143, 144] (by decide +kernel) (by decide +kernel)
set_option maxRecDepth 20000 in
theorem gX1_isSame_X0_meanLuck : GoodIn wsX1_isSame (wsV RX1 105 RX0 yX0_meanLuck wsX0_meanLuck) := goodIn_app (goodIn_of _ (by decide +kernel)) ggX1_isSame_X0_meanLuck
theorem dX1_isSame_0 : decode cX1_isSame 0 = .ok (.aload_n 0, 1) := by decide +kernel
theorem dX1_isSame_1 : decode cX1_isSame 1 = .ok (.getfield 15, 3) := by decide +kernel
theorem dX1_isSame_4 : decode cX1_isSame 4 = .ok (.arraylength, 1) := by decide +kernel
theorem dX1_isSame_5 : decode cX1_isSame 5 = .ok (.istore_n 2, 1) := by decide +kernel
theorem dX1_isSame_6 : decode cX1_isSame 6 = .ok (.aload_n 1, 1) := by decide +kernel
theorem dX1_isSame_7 : decode cX1_isSame 7 = .ok (.invokevirtual 44, 3) := by decide +kernel
theorem dX1_isSame_10 : decode cX1_isSame 10 = .ok (.aload_n 0, 1) := by decide +kernel
theorem dX1_isSame_11 : decode cX1_isSame 11 = .ok (.getfield 29, 3) := by decide +kernel
theorem dX1_isSame_14 : decode cX1_isSame 14 = .ok (.if_icmp .ne 56, 3) := by decide +kernel
theorem dX1_isSame_17 : decode cX1_isSame 17 = .ok (.aload_n 1, 1) := by decide +kernel
theorem dX1_isSame_18 : decode cX1_isSame 18 = .ok (.invokevirtual 48, 3) := by decide +kernel
theorem dX1_isSame_21 : decode cX1_isSame 21 = .ok (.iload_n 2, 1) := by decide +kernel
theorem dX1_isSame_22 : decode cX1_isSame 22 = .ok (.if_icmp .ne 48, 3) := by decide +kernel
theorem dX1_isSame_25 : decode cX1_isSame 25 = .ok (.aload_n 1, 1) := by decide +kernel
theorem dX1_isSame_26 : decode cX1_isSame 26 = .ok (.invokevirtual 50, 3) := by decide +kernel
theorem dX1_isSame_29 : decode cX1_isSame 29 = .ok (.aload_n 0, 1) := by decide +kernel
theorem dX1_isSame_30 : decode cX1_isSame 30 = .ok (.getfield 7, 3) := by decide +kernel
theorem dX1_isSame_33 : decode cX1_isSame 33 = .ok (.if_icmp .ne 37, 3) := by decide +kernel
theorem dX1_isSame_36 : decode cX1_isSame 36 = .ok (.aload_n 1, 1) := by decide +kernel
theorem dX1_isSame_37 : decode cX1_isSame 37 = .ok (.invokevirtual 52, 3) := by decide +kernel
theorem dX1_isSame_40 : decode cX1_isSame 40 = .ok (.aload_n 0, 1) := by decide +kernel
theorem dX1_isSame_41 : decode cX1_isSame 41 = .ok (.getfield 19, 3) := by decide +kernel
theorem dX1_isSame_44 : decode cX1_isSame 44 = .ok (.arraylength, 1) := by decide +kernel
theorem dX1_isSame_45 : decode cX1_isSame 45 = .ok (.if_icmp .ne 25, 3) := by decide +kernel
theorem dX1_isSame_48 : decode cX1_isSame 48 = .ok (.aload_n 1, 1) := by decide +kernel
theorem dX1_isSame_49 : decode cX1_isSame 49 = .ok (.invokevirtual 54, 3) := by decide +kernel
theorem dX1_isSame_52 : decode cX1_isSame 52 = .ok (.aload_n 0, 1) := by decide +kernel
theorem dX1_isSame_53 : decode cX1_isSame 53 = .ok (.invokevirtual 57, 3) := by decide +kernel
theorem dX1_isSame_56 : decode cX1_isSame 56 = .ok (.if_icmp .ne 14, 3) := by decide +kernel
theorem dX1_isSame_59 : decode cX1_isSame 59 = .ok (.aload_n 1, 1) := by decide +kernel
theorem dX1_isSame_60 : decode cX1_isSame 60 = .ok (.invokevirtual 58, 3) := by decide +kernel
theorem dX1_isSame_63 : decode cX1_isSame 63 = .ok (.aload_n 0, 1) := by decide +kernel
theorem dX1_isSame_64 : decode cX1_isSame 64 = .ok (.getfield 26, 3) := by decide +kernel
theorem dX1_isSame_67 : decode cX1_isSame 67 = .ok (.if_icmp .eq 5, 3) := by decide +kernel
theorem dX1_isSame_70 : decode cX1_isSame 70 = .ok (.iconst 0, 1) := by decide +kernel
theorem dX1_isSame_71 : decode cX1_isSame 71 = .ok (.ireturn, 1) := by decide +kernel
theorem dX1_isSame_72 : decode cX1_isSame 72 = .ok (.iconst 0, 1) := by decide +kernel
theorem dX1_isSame_73 : decode cX1_isSame 73 = .ok (.istore_n 3, 1) := by decide +kernel
theorem dX1_isSame_74 : decode cX1_isSame 74 = .ok (.iload_n 3, 1) := by decide +kernel
theorem dX1_isSame_75 : decode cX1_isSame 75 = .ok (.aload_n 0, 1) := by decide +kernel
theorem dX1_isSame_76 : decode cX1_isSame 76 = .ok (.getfield 19, 3) := by decide +kernel
theorem dX1_isSame_79 : decode cX1_isSame 79 = .ok (.arraylength, 1) := by decide +kernel
theorem dX1_isSame_80 : decode cX1_isSame 80 = .ok (.if_icmp .ge 84, 3) := by decide +kernel
theorem dX1_isSame_83 : decode cX1_isSame 83 = .ok (.aload_n 1, 1) := by decide +kernel
theorem dX1_isSame_84 : decode cX1_isSame 84 = .ok (.iload_n 3, 1) := by decide +kernel
theorem dX1_isSame_85 : decode cX1_isSame 85 = .ok (.invokevirtual 61, 3) := by decide +kernel
theorem dX1_isSame_88 : decode cX1_isSame 88 = .ok (.aload_n 0, 1) := by decide +kernel
theorem dX1_isSame_89 : decode cX1_isSame 89 = .ok (.getfield 19, 3) := by decide +kernel
theorem dX1_isSame_92 : decode cX1_isSame 92 = .ok (.iload_n 3, 1) := by decide +kernel
theorem dX1_isSame_93 : decode cX1_isSame 93 = .ok (.aaload, 1) := by decide +kernel
theorem dX1_isSame_94 : decode cX1_isSame 94 = .ok (.iconst 0, 1) := by decide +kernel
theorem dX1_isSame_95 : decode cX1_isSame 95 = .ok (.iaload, 1) := by decide +kernel
theorem dX1_isSame_96 : decode cX1_isSame 96 = .ok (.if_icmp .ne 60, 3) := by decide +kernel
theorem dX1_isSame_99 : decode cX1_isSame 99 = .ok (.aload_n 1, 1) := by decide +kernel
theorem dX1_isSame_100 : decode cX1_isSame 100 = .ok (.iload_n 3, 1) := by decide +kernel
theorem dX1_isSame_101 : decode cX1_isSame 101 = .ok (.invokevirtual 65, 3) := by decide +kernel
theorem dX1_isSame_104 : decode cX1_isSame 104 = .ok (.aload_n 0, 1) := by decide +kernel
theorem dX1_isSame_105 : decode cX1_isSame 105 = .ok (.getfield 19, 3) := by decide +kernel
theorem dX1_isSame_108 : decode cX1_isSame 108 = .ok (.iload_n 3, 1) := by decide +kernel
theorem dX1_isSame_109 : decode cX1_isSame 109 = .ok (.aaload, 1) := by decide +kernel
theorem dX1_isSame_110 : decode cX1_isSame 110 = .ok (.iconst 1, 1) := by decide +kernel
theorem dX1_isSame_111 : decode cX1_isSame 111 = .ok (.iaload, 1) := by decide +kernel
theorem dX1_isSame_112 : decode cX1_isSame 112 = .ok (.iconst 1, 1) := by decide +kernel
theorem dX1_isSame_113 : decode cX1_isSame 113 = .ok (.if_icmp .ne 7, 3) := by decide +kernel
theorem dX1_isSame_116 : decode cX1_isSame 116 = .ok (.iconst 1, 1) := by decide +kernel
theorem dX1_isSame_117 : decode cX1_isSame 117 = .ok (.goto 4, 3) := by decide +kernel
theorem dX1_isSame_120 : decode cX1_isSame 120 = .ok (.iconst 0, 1) := by decide +kernel
theorem dX1_isSame_121 : decode cX1_isSame 121 = .ok (.if_icmp .ne 35, 3) := by decide +kernel
theorem dX1_isSame_124 : decode cX1_isSame 124 = .ok (.aload_n 1, 1) := by decide +kernel
theorem dX1_isSame_125 : decode cX1_isSame 125 = .ok (.iload_n 3, 1) := by decide +kernel
theorem dX1_isSame_126 : decode cX1_isSame 126 = .ok (.invokevirtual 69, 3) := by decide +kernel
theorem dX1_isSame_129 : decode cX1_isSame 129 = .ok (.aload_n 0, 1) := by decide +kernel
theorem dX1_isSame_130 : decode cX1_isSame 130 = .ok (.getfield 19, 3) := by decide +kernel
theorem dX1_isSame_133 : decode cX1_isSame 133 = .ok (.iload_n 3, 1) := by decide +kernel
theorem dX1_isSame_134 : decode cX1_isSame 134 = .ok (.aaload, 1) := by decide +kernel
theorem dX1_isSame_135 : decode cX1_isSame 135 = .ok (.iconst 2, 1) := by decide +kernel
theorem dX1_isSame_136 : decode cX1_isSame 136 = .ok (.iaload, 1) := by decide +kernel
theorem dX1_isSame_137 : decode cX1_isSame 137 = .ok (.if_icmp .ne 19, 3) := by decide +kernel
theorem dX1_isSame_140 : decode cX1_isSame 140 = .ok (.aload_n 1, 1) := by decide +kernel
theorem dX1_isSame_141 : decode cX1_isSame 141 = .ok (.iload_n 3, 1) := by decide +kernel
theorem dX1_isSame_142 : decode cX1_isSame 142 = .ok (.invokevirtual 72, 3) := by decide +kernel
theorem dX1_isSame_145 : decode cX1_isSame 145 = .ok (.aload_n 0, 1) := by decide +kernel
theorem dX1_isSame_146 : decode cX1_isSame 146 = .ok (.getfield 19, 3) := by decide +kernel
theorem dX1_isSame_149 : decode cX1_isSame 149 = .ok (.iload_n 3, 1) := by decide +kernel
theorem dX1_isSame_150 : decode cX1_isSame 150 = .ok (.aaload, 1) := by decide +kernel
theorem dX1_isSame_151 : decode cX1_isSame 151 = .ok (.iconst 3, 1) := by decide +kernel
theorem dX1_isSame_152 : decode cX1_isSame 152 = .ok (.iaload, 1) := by decide +kernel
theorem dX1_isSame_153 : decode cX1_isSame 153 = .ok (.if_icmp .eq 5, 3) := by decide +kernel
theorem dX1_isSame_156 : decode cX1_isSame 156 = .ok (.iconst 0, 1) := by decide +kernel
theorem dX1_isSame_157 : decode cX1_isSame 157 = .ok (.ireturn, 1) := by decide +kernel
theorem dX1_isSame_158 : decode cX1_isSame 158 = .ok (.iinc 3 1, 3) := by decide +kernel
theorem dX1_isSame_161 : decode cX1_isSame 161 = .ok (.goto (-87), 3) := by decide +kernel
theorem dX1_isSame_164 : decode cX1_isSame 164 = .ok (.iconst (-1), 1) := by decide +kernel
theorem dX1_isSame_165 : decode cX1_isSame 165 = .ok (.istore_n 3, 1) := by decide +kernel
theorem dX1_isSame_166 : decode cX1_isSame 166 = .ok (.iconst 0, 1) := by decide +kernel
theorem dX1_isSame_167 : decode cX1_isSame 167 = .ok (.istore 4, 2) := by decide +kernel
theorem dX1_isSame_169 : decode cX1_isSame 169 = .ok (.iconst 0, 1) := by decide +kernel
theorem dX1_isSame_170 : decode cX1_isSame 170 = .ok (.istore 5, 2) := by decide +kernel
theorem dX1_isSame_172 : decode cX1_isSame 172 = .ok (.iconst 0, 1) := by decide +kernel
theorem dX1_isSame_173 : decode cX1_isSame 173 = .ok (.istore 6, 2) := by decide +kernel
theorem dX1_isSame_175 : decode cX1_isSame 175 = .ok (.iconst 0, 1) := by decide +kernel
theorem dX1_isSame_176 : decode cX1_isSame 176 = .ok (.istore 7, 2) := by decide +kernel
theorem dX1_isSame_178 : decode cX1_isSame 178 = .ok (.iload 7, 2) := by decide +kernel
theorem dX1_isSame_180 : decode cX1_isSame 180 = .ok (.iload_n 2, 1) := by decide +kernel
theorem dX1_isSame_181 : decode cX1_isSame 181 = .ok (.if_icmp .ge 174, 3) := by decide +kernel
theorem dX1_isSame_184 : decode cX1_isSame 184 = .ok (.aload_n 0, 1) := by decide +kernel
theorem dX1_isSame_185 : decode cX1_isSame 185 = .ok (.getfield 15, 3) := by decide +kernel
theorem dX1_isSame_188 : decode cX1_isSame 188 = .ok (.iload 7, 2) := by decide +kernel
theorem dX1_isSame_190 : decode cX1_isSame 190 = .ok (.aaload, 1) := by decide +kernel
theorem dX1_isSame_191 : decode cX1_isSame 191 = .ok (.astore 8, 2) := by decide +kernel
theorem dX1_isSame_193 : decode cX1_isSame 193 = .ok (.aload_n 1, 1) := by decide +kernel
theorem dX1_isSame_194 : decode cX1_isSame 194 = .ok (.iload 7, 2) := by decide +kernel
theorem dX1_isSame_196 : decode cX1_isSame 196 = .ok (.invokevirtual 75, 3) := by decide +kernel
theorem dX1_isSame_199 : decode cX1_isSame 199 = .ok (.aload 8, 2) := by decide +kernel
theorem dX1_isSame_201 : decode cX1_isSame 201 = .ok (.iconst 0, 1) := by decide +kernel
theorem dX1_isSame_202 : decode cX1_isSame 202 = .ok (.iaload, 1) := by decide +kernel
theorem dX1_isSame_203 : decode cX1_isSame 203 = .ok (.if_icmp .ne 87, 3) := by decide +kernel
theorem dX1_isSame_206 : decode cX1_isSame 206 = .ok (.aload_n 1, 1) := by decide +kernel
theorem dX1_isSame_207 : decode cX1_isSame 207 = .ok (.iload 7, 2) := by decide +kernel
theorem dX1_isSame_209 : decode cX1_isSame 209 = .ok (.invokevirtual 78, 3) := by decide +kernel
theorem dX1_isSame_212 : decode cX1_isSame 212 = .ok (.aload 8, 2) := by decide +kernel
theorem dX1_isSame_214 : decode cX1_isSame 214 = .ok (.iconst 1, 1) := by decide +kernel
theorem dX1_isSame_215 : decode cX1_isSame 215 = .ok (.iaload, 1) := by decide +kernel
theorem dX1_isSame_216 : decode cX1_isSame 216 = .ok (.if_icmp .ne 74, 3) := by decide +kernel
theorem dX1_isSame_219 : decode cX1_isSame 219 = .ok (.aload_n 1, 1) := by decide +kernel
theorem dX1_isSame_220 : decode cX1_isSame 220 = .ok (.iload 7, 2) := by decide +kernel
theorem dX1_isSame_222 : decode cX1_isSame 222 = .ok (.invokevirtual 81, 3) := by decide +kernel
theorem dX1_isSame_225 : decode cX1_isSame 225 = .ok (.aload 8, 2) := by decide +kernel
theorem dX1_isSame_227 : decode cX1_isSame 227 = .ok (.iconst 2, 1) := by decide +kernel
theorem dX1_isSame_228 : decode cX1_isSame 228 = .ok (.iaload, 1) := by decide +kernel
theorem dX1_isSame_229 : decode cX1_isSame 229 = .ok (.if_icmp .ne 61, 3) := by decide +kernel
theorem dX1_isSame_232 : decode cX1_isSame 232 = .ok (.aload_n 1, 1) := by decide +kernel
theorem dX1_isSame_233 : decode cX1_isSame 233 = .ok (.iload 7, 2) := by decide +kernel
theorem dX1_isSame_235 : decode cX1_isSame 235 = .ok (.invokevirtual 84, 3) := by decide +kernel
theorem dX1_isSame_238 : decode cX1_isSame 238 = .ok (.aload 8, 2) := by decide +kernel
theorem dX1_isSame_240 : decode cX1_isSame 240 = .ok (.iconst 2, 1) := by decide +kernel
theorem dX1_isSame_241 : decode cX1_isSame 241 = .ok (.iaload, 1) := by decide +kernel
theorem dX1_isSame_242 : decode cX1_isSame 242 = .ok (.ifCond .le 7, 3) := by decide +kernel
theorem dX1_isSame_245 : decode cX1_isSame 245 = .ok (.iconst 0, 1) := by decide +kernel
theorem dX1_isSame_246 : decode cX1_isSame 246 = .ok (.goto 26, 3) := by decide +kernel
theorem dX1_isSame_249 : decode cX1_isSame 249 = .ok (.aload 8, 2) := by decide +kernel
theorem dX1_isSame_251 : decode cX1_isSame 251 = .ok (.iconst 1, 1) := by decide +kernel
theorem dX1_isSame_252 : decode cX1_isSame 252 = .ok (.iaload, 1) := by decide +kernel
theorem dX1_isSame_253 : decode cX1_isSame 253 = .ok (.bipush 10, 2) := by decide +kernel
theorem dX1_isSame_255 : decode cX1_isSame 255 = .ok (.idiv, 1) := by decide +kernel
theorem dX1_isSame_256 : decode cX1_isSame 256 = .ok (.aload 8, 2) := by decide +kernel
theorem dX1_isSame_258 : decode cX1_isSame 258 = .ok (.iconst 1, 1) := by decide +kernel
theorem dX1_isSame_259 : decode cX1_isSame 259 = .ok (.iaload, 1) := by decide +kernel
theorem dX1_isSame_260 : decode cX1_isSame 260 = .ok (.bipush 10, 2) := by decide +kernel
theorem dX1_isSame_262 : decode cX1_isSame 262 = .ok (.irem, 1) := by decide +kernel
theorem dX1_isSame_263 : decode cX1_isSame 263 = .ok (.ifCond .le 7, 3) := by decide +kernel
theorem dX1_isSame_266 : decode cX1_isSame 266 = .ok (.iconst 1, 1) := by decide +kernel
theorem dX1_isSame_267 : decode cX1_isSame 267 = .ok (.goto 4, 3) := by decide +kernel
theorem dX1_isSame_270 : decode cX1_isSame 270 = .ok (.iconst 0, 1) := by decide +kernel
theorem dX1_isSame_271 : decode cX1_isSame 271 = .ok (.iadd, 1) := by decide +kernel
theorem dX1_isSame_272 : decode cX1_isSame 272 = .ok (.if_icmp .ne 18, 3) := by decide +kernel
theorem dX1_isSame_275 : decode cX1_isSame 275 = .ok (.aload_n 1, 1) := by decide +kernel
theorem dX1_isSame_276 : decode cX1_isSame 276 = .ok (.iload 7, 2) := by decide +kernel
theorem dX1_isSame_278 : decode cX1_isSame 278 = .ok (.invokevirtual 87, 3) := by decide +kernel
theorem dX1_isSame_281 : decode cX1_isSame 281 = .ok (.aload_n 0, 1) := by decide +kernel
theorem dX1_isSame_282 : decode cX1_isSame 282 = .ok (.iload 7, 2) := by decide +kernel
theorem dX1_isSame_284 : decode cX1_isSame 284 = .ok (.invokevirtual 90, 3) := by decide +kernel
theorem dX1_isSame_287 : decode cX1_isSame 287 = .ok (.if_icmp .eq 5, 3) := by decide +kernel
theorem dX1_isSame_290 : decode cX1_isSame 290 = .ok (.iconst 0, 1) := by decide +kernel
theorem dX1_isSame_291 : decode cX1_isSame 291 = .ok (.ireturn, 1) := by decide +kernel
theorem dX1_isSame_292 : decode cX1_isSame 292 = .ok (.iload_n 3, 1) := by decide +kernel
theorem dX1_isSame_293 : decode cX1_isSame 293 = .ok (.ifCond .lt 18, 3) := by decide +kernel
theorem dX1_isSame_296 : decode cX1_isSame 296 = .ok (.aload 8, 2) := by decide +kernel
theorem dX1_isSame_298 : decode cX1_isSame 298 = .ok (.iconst 0, 1) := by decide +kernel
theorem dX1_isSame_299 : decode cX1_isSame 299 = .ok (.iaload, 1) := by decide +kernel
theorem dX1_isSame_300 : decode cX1_isSame 300 = .ok (.aload_n 0, 1) := by decide +kernel
theorem dX1_isSame_301 : decode cX1_isSame 301 = .ok (.getfield 15, 3) := by decide +kernel
theorem dX1_isSame_304 : decode cX1_isSame 304 = .ok (.iload_n 3, 1) := by decide +kernel
theorem dX1_isSame_305 : decode cX1_isSame 305 = .ok (.aaload, 1) := by decide +kernel
theorem dX1_isSame_306 : decode cX1_isSame 306 = .ok (.iconst 0, 1) := by decide +kernel
theorem dX1_isSame_307 : decode cX1_isSame 307 = .ok (.iaload, 1) := by decide +kernel
theorem dX1_isSame_308 : decode cX1_isSame 308 = .ok (.if_icmp .le 6, 3) := by decide +kernel
theorem dX1_isSame_311 : decode cX1_isSame 311 = .ok (.iload 7, 2) := by decide +kernel
theorem dX1_isSame_313 : decode cX1_isSame 313 = .ok (.istore_n 3, 1) := by decide +kernel
theorem dX1_isSame_314 : decode cX1_isSame 314 = .ok (.iload 4, 2) := by decide +kernel
theorem dX1_isSame_316 : decode cX1_isSame 316 = .ok (.aload 8, 2) := by decide +kernel
theorem dX1_isSame_318 : decode cX1_isSame 318 = .ok (.iconst 1, 1) := by decide +kernel
theorem dX1_isSame_319 : decode cX1_isSame 319 = .ok (.iaload, 1) := by decide +kernel
theorem dX1_isSame_320 : decode cX1_isSame 320 = .ok (.iadd, 1) := by decide +kernel
theorem dX1_isSame_321 : decode cX1_isSame 321 = .ok (.istore 4, 2) := by decide +kernel
theorem dX1_isSame_323 : decode cX1_isSame 323 = .ok (.iload 5, 2) := by decide +kernel
theorem dX1_isSame_325 : decode cX1_isSame 325 = .ok (.aload 8, 2) := by decide +kernel
theorem dX1_isSame_327 : decode cX1_isSame 327 = .ok (.iconst 1, 1) := by decide +kernel
theorem dX1_isSame_328 : decode cX1_isSame 328 = .ok (.iaload, 1) := by decide +kernel
theorem dX1_isSame_329 : decode cX1_isSame 329 = .ok (.ifCond .ne 7, 3) := by decide +kernel
theorem dX1_isSame_332 : decode cX1_isSame 332 = .ok (.iconst 1, 1) := by decide +kernel
theorem dX1_isSame_333 : decode cX1_isSame 333 = .ok (.goto 4, 3) := by decide +kernel
theorem dX1_isSame_336 : decode cX1_isSame 336 = .ok (.iconst 0, 1) := by decide +kernel
theorem dX1_isSame_337 : decode cX1_isSame 337 = .ok (.iadd, 1) := by decide +kernel
theorem dX1_isSame_338 : decode cX1_isSame 338 = .ok (.istore 5, 2) := by decide +kernel
theorem dX1_isSame_340 : decode cX1_isSame 340 = .ok (.iload 6, 2) := by decide +kernel
theorem dX1_isSame_342 : decode cX1_isSame 342 = .ok (.aload 8, 2) := by decide +kernel
theorem dX1_isSame_344 : decode cX1_isSame 344 = .ok (.iconst 0, 1) := by decide +kernel
theorem dX1_isSame_345 : decode cX1_isSame 345 = .ok (.iaload, 1) := by decide +kernel
theorem dX1_isSame_346 : decode cX1_isSame 346 = .ok (.iadd, 1) := by decide +kernel
theorem dX1_isSame_347 : decode cX1_isSame 347 = .ok (.istore 6, 2) := by decide +kernel
theorem dX1_isSame_349 : decode cX1_isSame 349 = .ok (.iinc 7 1, 3) := by decide +kernel
theorem dX1_isSame_352 : decode cX1_isSame 352 = .ok (.goto (-174), 3) := by decide +kernel
theorem dX1_isSame_355 : decode cX1_isSame 355 = .ok (.iconst 0, 1) := by decide +kernel
theorem dX1_isSame_356 : decode cX1_isSame 356 = .ok (.istore 7, 2) := by decide +kernel
