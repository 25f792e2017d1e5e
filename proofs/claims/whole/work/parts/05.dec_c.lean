theorem d_Mo_init_0 : decode M_Mo_init.2.1 0 = .ok (.aload_n 0, 1) := by decide +kernel
theorem d_Mo_init_1 : decode M_Mo_init.2.1 1 = .ok (.invokespecial 1, 3) := by decide +kernel
theorem d_Mo_init_4 : decode M_Mo_init.2.1 4 = .ok (.aload_n 0, 1) := by decide +kernel
theorem d_Mo_init_5 : decode M_Mo_init.2.1 5 = .ok (.bipush 32, 2) := by decide +kernel
theorem d_Mo_init_7 : decode M_Mo_init.2.1 7 = .ok (.newarray .int, 2) := by decide +kernel
theorem d_Mo_init_9 : decode M_Mo_init.2.1 9 = .ok (.putfield 7, 3) := by decide +kernel
theorem d_Mo_init_12 : decode M_Mo_init.2.1 12 = .ok (.aload_n 0, 1) := by decide +kernel
theorem d_Mo_init_13 : decode M_Mo_init.2.1 13 = .ok (.bipush 8, 2) := by decide +kernel
theorem d_Mo_init_15 : decode M_Mo_init.2.1 15 = .ok (.newarray .int, 2) := by decide +kernel
theorem d_Mo_init_17 : decode M_Mo_init.2.1 17 = .ok (.putfield 13, 3) := by decide +kernel
theorem d_Mo_init_20 : decode M_Mo_init.2.1 20 = .ok (.aload_n 0, 1) := by decide +kernel
theorem d_Mo_init_21 : decode M_Mo_init.2.1 21 = .ok (.bipush 24, 2) := by decide +kernel
theorem d_Mo_init_23 : decode M_Mo_init.2.1 23 = .ok (.newarray .int, 2) := by decide +kernel
theorem d_Mo_init_25 : decode M_Mo_init.2.1 25 = .ok (.putfield 16, 3) := by decide +kernel
theorem d_Mo_init_28 : decode M_Mo_init.2.1 28 = .ok (.aload_n 0, 1) := by decide +kernel
theorem d_Mo_init_29 : decode M_Mo_init.2.1 29 = .ok (.bipush 24, 2) := by decide +kernel
theorem d_Mo_init_31 : decode M_Mo_init.2.1 31 = .ok (.newarray .int, 2) := by decide +kernel
theorem d_Mo_init_33 : decode M_Mo_init.2.1 33 = .ok (.putfield 19, 3) := by decide +kernel
theorem d_Mo_init_36 : decode M_Mo_init.2.1 36 = .ok (.aload_n 0, 1) := by decide +kernel
theorem d_Mo_init_37 : decode M_Mo_init.2.1 37 = .ok (.bipush 8, 2) := by decide +kernel
theorem d_Mo_init_39 : decode M_Mo_init.2.1 39 = .ok (.newarray .int, 2) := by decide +kernel
theorem d_Mo_init_41 : decode M_Mo_init.2.1 41 = .ok (.putfield 22, 3) := by decide +kernel
theorem d_Mo_init_44 : decode M_Mo_init.2.1 44 = .ok (.aload_n 0, 1) := by decide +kernel
theorem d_Mo_init_45 : decode M_Mo_init.2.1 45 = .ok (.bipush 8, 2) := by decide +kernel
theorem d_Mo_init_47 : decode M_Mo_init.2.1 47 = .ok (.newarray .int, 2) := by decide +kernel
theorem d_Mo_init_49 : decode M_Mo_init.2.1 49 = .ok (.putfield 25, 3) := by decide +kernel
theorem d_Mo_init_52 : decode M_Mo_init.2.1 52 = .ok (.aload_n 0, 1) := by decide +kernel
theorem d_Mo_init_53 : decode M_Mo_init.2.1 53 = .ok (.bipush 96, 2) := by decide +kernel
theorem d_Mo_init_55 : decode M_Mo_init.2.1 55 = .ok (.newarray .int, 2) := by decide +kernel
theorem d_Mo_init_57 : decode M_Mo_init.2.1 57 = .ok (.putfield 28, 3) := by decide +kernel
theorem d_Mo_init_60 : decode M_Mo_init.2.1 60 = .ok (.aload_n 0, 1) := by decide +kernel
theorem d_Mo_init_61 : decode M_Mo_init.2.1 61 = .ok (.bipush 96, 2) := by decide +kernel
theorem d_Mo_init_63 : decode M_Mo_init.2.1 63 = .ok (.newarray .int, 2) := by decide +kernel
theorem d_Mo_init_65 : decode M_Mo_init.2.1 65 = .ok (.putfield 31, 3) := by decide +kernel
theorem d_Mo_init_68 : decode M_Mo_init.2.1 68 = .ok (.aload_n 0, 1) := by decide +kernel
theorem d_Mo_init_69 : decode M_Mo_init.2.1 69 = .ok (.iconst 4, 1) := by decide +kernel
theorem d_Mo_init_70 : decode M_Mo_init.2.1 70 = .ok (.newarray .int, 2) := by decide +kernel
theorem d_Mo_init_72 : decode M_Mo_init.2.1 72 = .ok (.putfield 34, 3) := by decide +kernel
theorem d_Mo_init_75 : decode M_Mo_init.2.1 75 = .ok (.aload_n 0, 1) := by decide +kernel
theorem d_Mo_init_76 : decode M_Mo_init.2.1 76 = .ok (.bipush 64, 2) := by decide +kernel
theorem d_Mo_init_78 : decode M_Mo_init.2.1 78 = .ok (.newarray .int, 2) := by decide +kernel
theorem d_Mo_init_80 : decode M_Mo_init.2.1 80 = .ok (.putfield 37, 3) := by decide +kernel
theorem d_Mo_init_83 : decode M_Mo_init.2.1 83 = .ok (.aload_n 0, 1) := by decide +kernel
theorem d_Mo_init_84 : decode M_Mo_init.2.1 84 = .ok (.bipush 64, 2) := by decide +kernel
theorem d_Mo_init_86 : decode M_Mo_init.2.1 86 = .ok (.newarray .int, 2) := by decide +kernel
theorem d_Mo_init_88 : decode M_Mo_init.2.1 88 = .ok (.putfield 40, 3) := by decide +kernel
theorem d_Mo_init_91 : decode M_Mo_init.2.1 91 = .ok (.aload_n 0, 1) := by decide +kernel
theorem d_Mo_init_92 : decode M_Mo_init.2.1 92 = .ok (.bipush 64, 2) := by decide +kernel
theorem d_Mo_init_94 : decode M_Mo_init.2.1 94 = .ok (.newarray .int, 2) := by decide +kernel
theorem d_Mo_init_96 : decode M_Mo_init.2.1 96 = .ok (.putfield 43, 3) := by decide +kernel
theorem d_Mo_init_99 : decode M_Mo_init.2.1 99 = .ok (.aload_n 0, 1) := by decide +kernel
theorem d_Mo_init_100 : decode M_Mo_init.2.1 100 = .ok (.bipush 8, 2) := by decide +kernel
theorem d_Mo_init_102 : decode M_Mo_init.2.1 102 = .ok (.newarray .int, 2) := by decide +kernel
theorem d_Mo_init_104 : decode M_Mo_init.2.1 104 = .ok (.putfield 46, 3) := by decide +kernel
theorem d_Mo_init_107 : decode M_Mo_init.2.1 107 = .ok (.aload_n 0, 1) := by decide +kernel
theorem d_Mo_init_108 : decode M_Mo_init.2.1 108 = .ok (.iload_n 1, 1) := by decide +kernel
theorem d_Mo_init_109 : decode M_Mo_init.2.1 109 = .ok (.iconst 1, 1) := by decide +kernel
theorem d_Mo_init_110 : decode M_Mo_init.2.1 110 = .ok (.bipush 60, 2) := by decide +kernel
theorem d_Mo_init_112 : decode M_Mo_init.2.1 112 = .ok (.invokestatic 49, 3) := by decide +kernel
theorem d_Mo_init_115 : decode M_Mo_init.2.1 115 = .ok (.putfield 53, 3) := by decide +kernel
theorem d_Mo_init_118 : decode M_Mo_init.2.1 118 = .ok (.aload_n 0, 1) := by decide +kernel
theorem d_Mo_init_119 : decode M_Mo_init.2.1 119 = .ok (.iload_n 2, 1) := by decide +kernel
theorem d_Mo_init_120 : decode M_Mo_init.2.1 120 = .ok (.aload_n 0, 1) := by decide +kernel
theorem d_Mo_init_121 : decode M_Mo_init.2.1 121 = .ok (.getfield 53, 3) := by decide +kernel
theorem d_Mo_init_124 : decode M_Mo_init.2.1 124 = .ok (.sipush 600, 3) := by decide +kernel
theorem d_Mo_init_127 : decode M_Mo_init.2.1 127 = .ok (.invokestatic 49, 3) := by decide +kernel
theorem d_Mo_init_130 : decode M_Mo_init.2.1 130 = .ok (.putfield 57, 3) := by decide +kernel
theorem d_Mo_init_133 : decode M_Mo_init.2.1 133 = .ok (.aload_n 0, 1) := by decide +kernel
theorem d_Mo_init_134 : decode M_Mo_init.2.1 134 = .ok (.iload_n 3, 1) := by decide +kernel
theorem d_Mo_init_135 : decode M_Mo_init.2.1 135 = .ok (.aload_n 0, 1) := by decide +kernel
theorem d_Mo_init_136 : decode M_Mo_init.2.1 136 = .ok (.getfield 57, 3) := by decide +kernel
theorem d_Mo_init_139 : decode M_Mo_init.2.1 139 = .ok (.sipush 6000, 3) := by decide +kernel
theorem d_Mo_init_142 : decode M_Mo_init.2.1 142 = .ok (.invokestatic 49, 3) := by decide +kernel
theorem d_Mo_init_145 : decode M_Mo_init.2.1 145 = .ok (.putfield 60, 3) := by decide +kernel
theorem d_Mo_init_148 : decode M_Mo_init.2.1 148 = .ok (.return_, 1) := by decide +kernel
theorem d_Mo_within_0 : decode M_Mo_within.2.1 0 = .ok (.iload_n 0, 1) := by decide +kernel
theorem d_Mo_within_1 : decode M_Mo_within.2.1 1 = .ok (.iload_n 1, 1) := by decide +kernel
theorem d_Mo_within_2 : decode M_Mo_within.2.1 2 = .ok (.if_icmp .ge 7, 3) := by decide +kernel
theorem d_Mo_within_5 : decode M_Mo_within.2.1 5 = .ok (.iload_n 1, 1) := by decide +kernel
theorem d_Mo_within_6 : decode M_Mo_within.2.1 6 = .ok (.goto 13, 3) := by decide +kernel
theorem d_Mo_within_9 : decode M_Mo_within.2.1 9 = .ok (.iload_n 0, 1) := by decide +kernel
theorem d_Mo_within_10 : decode M_Mo_within.2.1 10 = .ok (.iload_n 2, 1) := by decide +kernel
theorem d_Mo_within_11 : decode M_Mo_within.2.1 11 = .ok (.if_icmp .le 7, 3) := by decide +kernel
theorem d_Mo_within_14 : decode M_Mo_within.2.1 14 = .ok (.iload_n 2, 1) := by decide +kernel
theorem d_Mo_within_15 : decode M_Mo_within.2.1 15 = .ok (.goto 4, 3) := by decide +kernel
theorem d_Mo_within_18 : decode M_Mo_within.2.1 18 = .ok (.iload_n 0, 1) := by decide +kernel
theorem d_Mo_within_19 : decode M_Mo_within.2.1 19 = .ok (.ireturn, 1) := by decide +kernel
theorem d_Mo_out_0 : decode M_Mo_out.2.1 0 = .ok (.iload_n 0, 1) := by decide +kernel
theorem d_Mo_out_1 : decode M_Mo_out.2.1 1 = .ok (.ifCond .lt 8, 3) := by decide +kernel
theorem d_Mo_out_4 : decode M_Mo_out.2.1 4 = .ok (.iload_n 0, 1) := by decide +kernel
theorem d_Mo_out_5 : decode M_Mo_out.2.1 5 = .ok (.iload_n 1, 1) := by decide +kernel
theorem d_Mo_out_6 : decode M_Mo_out.2.1 6 = .ok (.if_icmp .le 7, 3) := by decide +kernel
theorem d_Mo_out_9 : decode M_Mo_out.2.1 9 = .ok (.iconst 1, 1) := by decide +kernel
theorem d_Mo_out_10 : decode M_Mo_out.2.1 10 = .ok (.goto 4, 3) := by decide +kernel
theorem d_Mo_out_13 : decode M_Mo_out.2.1 13 = .ok (.iconst 0, 1) := by decide +kernel
theorem d_Mo_out_14 : decode M_Mo_out.2.1 14 = .ok (.ireturn, 1) := by decide +kernel
theorem d_Mo_alias_0 : decode M_Mo_alias.2.1 0 = .ok (.iload_n 1, 1) := by decide +kernel
theorem d_Mo_alias_1 : decode M_Mo_alias.2.1 1 = .ok (.bipush 7, 2) := by decide +kernel
theorem d_Mo_alias_3 : decode M_Mo_alias.2.1 3 = .ok (.invokestatic 63, 3) := by decide +kernel
theorem d_Mo_alias_6 : decode M_Mo_alias.2.1 6 = .ok (.ifCond .ne 12, 3) := by decide +kernel
theorem d_Mo_alias_9 : decode M_Mo_alias.2.1 9 = .ok (.iload_n 2, 1) := by decide +kernel
theorem d_Mo_alias_10 : decode M_Mo_alias.2.1 10 = .ok (.bipush 63, 2) := by decide +kernel
theorem d_Mo_alias_12 : decode M_Mo_alias.2.1 12 = .ok (.invokestatic 63, 3) := by decide +kernel
theorem d_Mo_alias_15 : decode M_Mo_alias.2.1 15 = .ok (.ifCond .eq 7, 3) := by decide +kernel
theorem d_Mo_alias_18 : decode M_Mo_alias.2.1 18 = .ok (.sipush (-501), 3) := by decide +kernel
theorem d_Mo_alias_21 : decode M_Mo_alias.2.1 21 = .ok (.ireturn, 1) := by decide +kernel
theorem d_Mo_alias_22 : decode M_Mo_alias.2.1 22 = .ok (.iconst 0, 1) := by decide +kernel
theorem d_Mo_alias_23 : decode M_Mo_alias.2.1 23 = .ok (.istore_n 3, 1) := by decide +kernel
theorem d_Mo_alias_24 : decode M_Mo_alias.2.1 24 = .ok (.iload_n 3, 1) := by decide +kernel
theorem d_Mo_alias_25 : decode M_Mo_alias.2.1 25 = .ok (.aload_n 0, 1) := by decide +kernel
theorem d_Mo_alias_26 : decode M_Mo_alias.2.1 26 = .ok (.getfield 13, 3) := by decide +kernel
theorem d_Mo_alias_29 : decode M_Mo_alias.2.1 29 = .ok (.iload_n 1, 1) := by decide +kernel
theorem d_Mo_alias_30 : decode M_Mo_alias.2.1 30 = .ok (.iaload, 1) := by decide +kernel
theorem d_Mo_alias_31 : decode M_Mo_alias.2.1 31 = .ok (.if_icmp .ge 27, 3) := by decide +kernel
theorem d_Mo_alias_34 : decode M_Mo_alias.2.1 34 = .ok (.aload_n 0, 1) := by decide +kernel
theorem d_Mo_alias_35 : decode M_Mo_alias.2.1 35 = .ok (.getfield 7, 3) := by decide +kernel
theorem d_Mo_alias_38 : decode M_Mo_alias.2.1 38 = .ok (.iconst 4, 1) := by decide +kernel
theorem d_Mo_alias_39 : decode M_Mo_alias.2.1 39 = .ok (.iload_n 1, 1) := by decide +kernel
theorem d_Mo_alias_40 : decode M_Mo_alias.2.1 40 = .ok (.imul, 1) := by decide +kernel
theorem d_Mo_alias_41 : decode M_Mo_alias.2.1 41 = .ok (.iload_n 3, 1) := by decide +kernel
theorem d_Mo_alias_42 : decode M_Mo_alias.2.1 42 = .ok (.iadd, 1) := by decide +kernel
theorem d_Mo_alias_43 : decode M_Mo_alias.2.1 43 = .ok (.iaload, 1) := by decide +kernel
theorem d_Mo_alias_44 : decode M_Mo_alias.2.1 44 = .ok (.iload_n 2, 1) := by decide +kernel
theorem d_Mo_alias_45 : decode M_Mo_alias.2.1 45 = .ok (.if_icmp .ne 7, 3) := by decide +kernel
theorem d_Mo_alias_48 : decode M_Mo_alias.2.1 48 = .ok (.sipush (-452), 3) := by decide +kernel
theorem d_Mo_alias_51 : decode M_Mo_alias.2.1 51 = .ok (.ireturn, 1) := by decide +kernel
theorem d_Mo_alias_52 : decode M_Mo_alias.2.1 52 = .ok (.iinc 3 1, 3) := by decide +kernel
theorem d_Mo_alias_55 : decode M_Mo_alias.2.1 55 = .ok (.goto (-31), 3) := by decide +kernel
theorem d_Mo_alias_58 : decode M_Mo_alias.2.1 58 = .ok (.aload_n 0, 1) := by decide +kernel
theorem d_Mo_alias_59 : decode M_Mo_alias.2.1 59 = .ok (.getfield 13, 3) := by decide +kernel
theorem d_Mo_alias_62 : decode M_Mo_alias.2.1 62 = .ok (.iload_n 1, 1) := by decide +kernel
theorem d_Mo_alias_63 : decode M_Mo_alias.2.1 63 = .ok (.iaload, 1) := by decide +kernel
theorem d_Mo_alias_64 : decode M_Mo_alias.2.1 64 = .ok (.iconst 4, 1) := by decide +kernel
theorem d_Mo_alias_65 : decode M_Mo_alias.2.1 65 = .ok (.if_icmp .ne 7, 3) := by decide +kernel
theorem d_Mo_alias_68 : decode M_Mo_alias.2.1 68 = .ok (.sipush (-452), 3) := by decide +kernel
theorem d_Mo_alias_71 : decode M_Mo_alias.2.1 71 = .ok (.ireturn, 1) := by decide +kernel
theorem d_Mo_alias_72 : decode M_Mo_alias.2.1 72 = .ok (.aload_n 0, 1) := by decide +kernel
theorem d_Mo_alias_73 : decode M_Mo_alias.2.1 73 = .ok (.getfield 7, 3) := by decide +kernel
theorem d_Mo_alias_76 : decode M_Mo_alias.2.1 76 = .ok (.iconst 4, 1) := by decide +kernel
theorem d_Mo_alias_77 : decode M_Mo_alias.2.1 77 = .ok (.iload_n 1, 1) := by decide +kernel
theorem d_Mo_alias_78 : decode M_Mo_alias.2.1 78 = .ok (.imul, 1) := by decide +kernel
theorem d_Mo_alias_79 : decode M_Mo_alias.2.1 79 = .ok (.aload_n 0, 1) := by decide +kernel
theorem d_Mo_alias_80 : decode M_Mo_alias.2.1 80 = .ok (.getfield 13, 3) := by decide +kernel
theorem d_Mo_alias_83 : decode M_Mo_alias.2.1 83 = .ok (.iload_n 1, 1) := by decide +kernel
theorem d_Mo_alias_84 : decode M_Mo_alias.2.1 84 = .ok (.iaload, 1) := by decide +kernel
theorem d_Mo_alias_85 : decode M_Mo_alias.2.1 85 = .ok (.iadd, 1) := by decide +kernel
theorem d_Mo_alias_86 : decode M_Mo_alias.2.1 86 = .ok (.iload_n 2, 1) := by decide +kernel
theorem d_Mo_alias_87 : decode M_Mo_alias.2.1 87 = .ok (.iastore, 1) := by decide +kernel
theorem d_Mo_alias_88 : decode M_Mo_alias.2.1 88 = .ok (.aload_n 0, 1) := by decide +kernel
theorem d_Mo_alias_89 : decode M_Mo_alias.2.1 89 = .ok (.getfield 13, 3) := by decide +kernel
theorem d_Mo_alias_92 : decode M_Mo_alias.2.1 92 = .ok (.iload_n 1, 1) := by decide +kernel
theorem d_Mo_alias_93 : decode M_Mo_alias.2.1 93 = .ok (.dup2, 1) := by decide +kernel
theorem d_Mo_alias_94 : decode M_Mo_alias.2.1 94 = .ok (.iaload, 1) := by decide +kernel
theorem d_Mo_alias_95 : decode M_Mo_alias.2.1 95 = .ok (.iconst 1, 1) := by decide +kernel
theorem d_Mo_alias_96 : decode M_Mo_alias.2.1 96 = .ok (.iadd, 1) := by decide +kernel
theorem d_Mo_alias_97 : decode M_Mo_alias.2.1 97 = .ok (.iastore, 1) := by decide +kernel
theorem d_Mo_alias_98 : decode M_Mo_alias.2.1 98 = .ok (.aload_n 0, 1) := by decide +kernel
theorem d_Mo_alias_99 : decode M_Mo_alias.2.1 99 = .ok (.getfield 13, 3) := by decide +kernel
theorem d_Mo_alias_102 : decode M_Mo_alias.2.1 102 = .ok (.iload_n 1, 1) := by decide +kernel
theorem d_Mo_alias_103 : decode M_Mo_alias.2.1 103 = .ok (.iaload, 1) := by decide +kernel
theorem d_Mo_alias_104 : decode M_Mo_alias.2.1 104 = .ok (.ireturn, 1) := by decide +kernel
theorem d_Mo_unalias_0 : decode M_Mo_unalias.2.1 0 = .ok (.iload_n 1, 1) := by decide +kernel
theorem d_Mo_unalias_1 : decode M_Mo_unalias.2.1 1 = .ok (.bipush 7, 2) := by decide +kernel
theorem d_Mo_unalias_3 : decode M_Mo_unalias.2.1 3 = .ok (.invokestatic 63, 3) := by decide +kernel
theorem d_Mo_unalias_6 : decode M_Mo_unalias.2.1 6 = .ok (.ifCond .eq 7, 3) := by decide +kernel
theorem d_Mo_unalias_9 : decode M_Mo_unalias.2.1 9 = .ok (.sipush (-501), 3) := by decide +kernel
theorem d_Mo_unalias_12 : decode M_Mo_unalias.2.1 12 = .ok (.ireturn, 1) := by decide +kernel
theorem d_Mo_unalias_13 : decode M_Mo_unalias.2.1 13 = .ok (.aload_n 0, 1) := by decide +kernel
theorem d_Mo_unalias_14 : decode M_Mo_unalias.2.1 14 = .ok (.getfield 13, 3) := by decide +kernel
theorem d_Mo_unalias_17 : decode M_Mo_unalias.2.1 17 = .ok (.iload_n 1, 1) := by decide +kernel
theorem d_Mo_unalias_18 : decode M_Mo_unalias.2.1 18 = .ok (.iaload, 1) := by decide +kernel
theorem d_Mo_unalias_19 : decode M_Mo_unalias.2.1 19 = .ok (.istore_n 2, 1) := by decide +kernel
theorem d_Mo_unalias_20 : decode M_Mo_unalias.2.1 20 = .ok (.aload_n 0, 1) := by decide +kernel
theorem d_Mo_unalias_21 : decode M_Mo_unalias.2.1 21 = .ok (.getfield 13, 3) := by decide +kernel
theorem d_Mo_unalias_24 : decode M_Mo_unalias.2.1 24 = .ok (.iload_n 1, 1) := by decide +kernel
theorem d_Mo_unalias_25 : decode M_Mo_unalias.2.1 25 = .ok (.iconst 0, 1) := by decide +kernel
theorem d_Mo_unalias_26 : decode M_Mo_unalias.2.1 26 = .ok (.iastore, 1) := by decide +kernel
theorem d_Mo_unalias_27 : decode M_Mo_unalias.2.1 27 = .ok (.iload_n 2, 1) := by decide +kernel
theorem d_Mo_unalias_28 : decode M_Mo_unalias.2.1 28 = .ok (.ireturn, 1) := by decide +kernel
theorem d_Mo_route_0 : decode M_Mo_route.2.1 0 = .ok (.iload_n 1, 1) := by decide +kernel
theorem d_Mo_route_1 : decode M_Mo_route.2.1 1 = .ok (.iconst 1, 1) := by decide +kernel
theorem d_Mo_route_2 : decode M_Mo_route.2.1 2 = .ok (.if_icmp .lt 27, 3) := by decide +kernel
theorem d_Mo_route_5 : decode M_Mo_route.2.1 5 = .ok (.iload_n 1, 1) := by decide +kernel
theorem d_Mo_route_6 : decode M_Mo_route.2.1 6 = .ok (.bipush 7, 2) := by decide +kernel
theorem d_Mo_route_8 : decode M_Mo_route.2.1 8 = .ok (.if_icmp .gt 21, 3) := by decide +kernel
theorem d_Mo_route_11 : decode M_Mo_route.2.1 11 = .ok (.iload_n 2, 1) := by decide +kernel
theorem d_Mo_route_12 : decode M_Mo_route.2.1 12 = .ok (.bipush 7, 2) := by decide +kernel
theorem d_Mo_route_14 : decode M_Mo_route.2.1 14 = .ok (.invokestatic 63, 3) := by decide +kernel
theorem d_Mo_route_17 : decode M_Mo_route.2.1 17 = .ok (.ifCond .ne 12, 3) := by decide +kernel
theorem d_Mo_route_20 : decode M_Mo_route.2.1 20 = .ok (.iload_n 3, 1) := by decide +kernel
theorem d_Mo_route_21 : decode M_Mo_route.2.1 21 = .ok (.bipush 99, 2) := by decide +kernel
theorem d_Mo_route_23 : decode M_Mo_route.2.1 23 = .ok (.invokestatic 63, 3) := by decide +kernel
theorem d_Mo_route_26 : decode M_Mo_route.2.1 26 = .ok (.ifCond .eq 7, 3) := by decide +kernel
theorem d_Mo_route_29 : decode M_Mo_route.2.1 29 = .ok (.sipush (-501), 3) := by decide +kernel
theorem d_Mo_route_32 : decode M_Mo_route.2.1 32 = .ok (.ireturn, 1) := by decide +kernel
theorem d_Mo_route_33 : decode M_Mo_route.2.1 33 = .ok (.aload_n 0, 1) := by decide +kernel
theorem d_Mo_route_34 : decode M_Mo_route.2.1 34 = .ok (.getfield 22, 3) := by decide +kernel
theorem d_Mo_route_37 : decode M_Mo_route.2.1 37 = .ok (.iload_n 1, 1) := by decide +kernel
theorem d_Mo_route_38 : decode M_Mo_route.2.1 38 = .ok (.iaload, 1) := by decide +kernel
theorem d_Mo_route_39 : decode M_Mo_route.2.1 39 = .ok (.istore 4, 2) := by decide +kernel
theorem d_Mo_route_41 : decode M_Mo_route.2.1 41 = .ok (.iconst 0, 1) := by decide +kernel
theorem d_Mo_route_42 : decode M_Mo_route.2.1 42 = .ok (.istore 5, 2) := by decide +kernel
theorem d_Mo_route_44 : decode M_Mo_route.2.1 44 = .ok (.iload 5, 2) := by decide +kernel
theorem d_Mo_route_46 : decode M_Mo_route.2.1 46 = .ok (.iload 4, 2) := by decide +kernel
theorem d_Mo_route_48 : decode M_Mo_route.2.1 48 = .ok (.if_icmp .ge 28, 3) := by decide +kernel
theorem d_Mo_route_51 : decode M_Mo_route.2.1 51 = .ok (.aload_n 0, 1) := by decide +kernel
theorem d_Mo_route_52 : decode M_Mo_route.2.1 52 = .ok (.getfield 16, 3) := by decide +kernel
theorem d_Mo_route_55 : decode M_Mo_route.2.1 55 = .ok (.iconst 3, 1) := by decide +kernel
theorem d_Mo_route_56 : decode M_Mo_route.2.1 56 = .ok (.iload_n 1, 1) := by decide +kernel
theorem d_Mo_route_57 : decode M_Mo_route.2.1 57 = .ok (.imul, 1) := by decide +kernel
theorem d_Mo_route_58 : decode M_Mo_route.2.1 58 = .ok (.iload 5, 2) := by decide +kernel
theorem d_Mo_route_60 : decode M_Mo_route.2.1 60 = .ok (.iadd, 1) := by decide +kernel
theorem d_Mo_route_61 : decode M_Mo_route.2.1 61 = .ok (.iaload, 1) := by decide +kernel
theorem d_Mo_route_62 : decode M_Mo_route.2.1 62 = .ok (.iload_n 2, 1) := by decide +kernel
theorem d_Mo_route_63 : decode M_Mo_route.2.1 63 = .ok (.if_icmp .ne 7, 3) := by decide +kernel
theorem d_Mo_route_66 : decode M_Mo_route.2.1 66 = .ok (.sipush (-452), 3) := by decide +kernel
theorem d_Mo_route_69 : decode M_Mo_route.2.1 69 = .ok (.ireturn, 1) := by decide +kernel
theorem d_Mo_route_70 : decode M_Mo_route.2.1 70 = .ok (.iinc 5 1, 3) := by decide +kernel
theorem d_Mo_route_73 : decode M_Mo_route.2.1 73 = .ok (.goto (-29), 3) := by decide +kernel
theorem d_Mo_route_76 : decode M_Mo_route.2.1 76 = .ok (.iload 4, 2) := by decide +kernel
theorem d_Mo_route_78 : decode M_Mo_route.2.1 78 = .ok (.iconst 3, 1) := by decide +kernel
theorem d_Mo_route_79 : decode M_Mo_route.2.1 79 = .ok (.if_icmp .ne 7, 3) := by decide +kernel
theorem d_Mo_route_82 : decode M_Mo_route.2.1 82 = .ok (.sipush (-452), 3) := by decide +kernel
theorem d_Mo_route_85 : decode M_Mo_route.2.1 85 = .ok (.ireturn, 1) := by decide +kernel
theorem d_Mo_route_86 : decode M_Mo_route.2.1 86 = .ok (.aload_n 0, 1) := by decide +kernel
theorem d_Mo_route_87 : decode M_Mo_route.2.1 87 = .ok (.getfield 16, 3) := by decide +kernel
theorem d_Mo_route_90 : decode M_Mo_route.2.1 90 = .ok (.iconst 3, 1) := by decide +kernel
theorem d_Mo_route_91 : decode M_Mo_route.2.1 91 = .ok (.iload_n 1, 1) := by decide +kernel
theorem d_Mo_route_92 : decode M_Mo_route.2.1 92 = .ok (.imul, 1) := by decide +kernel
theorem d_Mo_route_93 : decode M_Mo_route.2.1 93 = .ok (.iload 4, 2) := by decide +kernel
theorem d_Mo_route_95 : decode M_Mo_route.2.1 95 = .ok (.iadd, 1) := by decide +kernel
theorem d_Mo_route_96 : decode M_Mo_route.2.1 96 = .ok (.iload_n 2, 1) := by decide +kernel
theorem d_Mo_route_97 : decode M_Mo_route.2.1 97 = .ok (.iastore, 1) := by decide +kernel
theorem d_Mo_route_98 : decode M_Mo_route.2.1 98 = .ok (.aload_n 0, 1) := by decide +kernel
theorem d_Mo_route_99 : decode M_Mo_route.2.1 99 = .ok (.getfield 19, 3) := by decide +kernel
theorem d_Mo_route_102 : decode M_Mo_route.2.1 102 = .ok (.iconst 3, 1) := by decide +kernel
theorem d_Mo_route_103 : decode M_Mo_route.2.1 103 = .ok (.iload_n 1, 1) := by decide +kernel
theorem d_Mo_route_104 : decode M_Mo_route.2.1 104 = .ok (.imul, 1) := by decide +kernel
theorem d_Mo_route_105 : decode M_Mo_route.2.1 105 = .ok (.iload 4, 2) := by decide +kernel
theorem d_Mo_route_107 : decode M_Mo_route.2.1 107 = .ok (.iadd, 1) := by decide +kernel
theorem d_Mo_route_108 : decode M_Mo_route.2.1 108 = .ok (.iconst 3, 1) := by decide +kernel
theorem d_Mo_route_109 : decode M_Mo_route.2.1 109 = .ok (.iload_n 3, 1) := by decide +kernel
theorem d_Mo_route_110 : decode M_Mo_route.2.1 110 = .ok (.imul, 1) := by decide +kernel
theorem d_Mo_route_111 : decode M_Mo_route.2.1 111 = .ok (.iload 4, 2) := by decide +kernel
theorem d_Mo_route_113 : decode M_Mo_route.2.1 113 = .ok (.iadd, 1) := by decide +kernel
theorem d_Mo_route_114 : decode M_Mo_route.2.1 114 = .ok (.iastore, 1) := by decide +kernel
theorem d_Mo_route_115 : decode M_Mo_route.2.1 115 = .ok (.aload_n 0, 1) := by decide +kernel
theorem d_Mo_route_116 : decode M_Mo_route.2.1 116 = .ok (.getfield 22, 3) := by decide +kernel
theorem d_Mo_route_119 : decode M_Mo_route.2.1 119 = .ok (.iload_n 1, 1) := by decide +kernel
theorem d_Mo_route_120 : decode M_Mo_route.2.1 120 = .ok (.iload 4, 2) := by decide +kernel
theorem d_Mo_route_122 : decode M_Mo_route.2.1 122 = .ok (.iconst 1, 1) := by decide +kernel
theorem d_Mo_route_123 : decode M_Mo_route.2.1 123 = .ok (.iadd, 1) := by decide +kernel
theorem d_Mo_route_124 : decode M_Mo_route.2.1 124 = .ok (.iastore, 1) := by decide +kernel
theorem d_Mo_route_125 : decode M_Mo_route.2.1 125 = .ok (.iload 4, 2) := by decide +kernel
theorem d_Mo_route_127 : decode M_Mo_route.2.1 127 = .ok (.iconst 1, 1) := by decide +kernel
theorem d_Mo_route_128 : decode M_Mo_route.2.1 128 = .ok (.iadd, 1) := by decide +kernel
theorem d_Mo_route_129 : decode M_Mo_route.2.1 129 = .ok (.ireturn, 1) := by decide +kernel
theorem d_Mo_unroute_0 : decode M_Mo_unroute.2.1 0 = .ok (.iload_n 1, 1) := by decide +kernel
theorem d_Mo_unroute_1 : decode M_Mo_unroute.2.1 1 = .ok (.iconst 1, 1) := by decide +kernel
theorem d_Mo_unroute_2 : decode M_Mo_unroute.2.1 2 = .ok (.if_icmp .lt 9, 3) := by decide +kernel
theorem d_Mo_unroute_5 : decode M_Mo_unroute.2.1 5 = .ok (.iload_n 1, 1) := by decide +kernel
theorem d_Mo_unroute_6 : decode M_Mo_unroute.2.1 6 = .ok (.bipush 7, 2) := by decide +kernel
theorem d_Mo_unroute_8 : decode M_Mo_unroute.2.1 8 = .ok (.if_icmp .le 7, 3) := by decide +kernel
theorem d_Mo_unroute_11 : decode M_Mo_unroute.2.1 11 = .ok (.sipush (-501), 3) := by decide +kernel
theorem d_Mo_unroute_14 : decode M_Mo_unroute.2.1 14 = .ok (.ireturn, 1) := by decide +kernel
theorem d_Mo_unroute_15 : decode M_Mo_unroute.2.1 15 = .ok (.aload_n 0, 1) := by decide +kernel
theorem d_Mo_unroute_16 : decode M_Mo_unroute.2.1 16 = .ok (.getfield 22, 3) := by decide +kernel
theorem d_Mo_unroute_19 : decode M_Mo_unroute.2.1 19 = .ok (.iload_n 1, 1) := by decide +kernel
theorem d_Mo_unroute_20 : decode M_Mo_unroute.2.1 20 = .ok (.iaload, 1) := by decide +kernel
theorem d_Mo_unroute_21 : decode M_Mo_unroute.2.1 21 = .ok (.istore_n 2, 1) := by decide +kernel
theorem d_Mo_unroute_22 : decode M_Mo_unroute.2.1 22 = .ok (.aload_n 0, 1) := by decide +kernel
theorem d_Mo_unroute_23 : decode M_Mo_unroute.2.1 23 = .ok (.getfield 22, 3) := by decide +kernel
theorem d_Mo_unroute_26 : decode M_Mo_unroute.2.1 26 = .ok (.iload_n 1, 1) := by decide +kernel
theorem d_Mo_unroute_27 : decode M_Mo_unroute.2.1 27 = .ok (.iconst 0, 1) := by decide +kernel
theorem d_Mo_unroute_28 : decode M_Mo_unroute.2.1 28 = .ok (.iastore, 1) := by decide +kernel
theorem d_Mo_unroute_29 : decode M_Mo_unroute.2.1 29 = .ok (.iload_n 2, 1) := by decide +kernel
theorem d_Mo_unroute_30 : decode M_Mo_unroute.2.1 30 = .ok (.ireturn, 1) := by decide +kernel
theorem d_Mo_host_0 : decode M_Mo_host.2.1 0 = .ok (.iload_n 1, 1) := by decide +kernel
theorem d_Mo_host_1 : decode M_Mo_host.2.1 1 = .ok (.bipush 7, 2) := by decide +kernel
theorem d_Mo_host_3 : decode M_Mo_host.2.1 3 = .ok (.invokestatic 63, 3) := by decide +kernel
theorem d_Mo_host_6 : decode M_Mo_host.2.1 6 = .ok (.ifCond .ne 11, 3) := by decide +kernel
theorem d_Mo_host_9 : decode M_Mo_host.2.1 9 = .ok (.iload_n 2, 1) := by decide +kernel
theorem d_Mo_host_10 : decode M_Mo_host.2.1 10 = .ok (.iconst 2, 1) := by decide +kernel
theorem d_Mo_host_11 : decode M_Mo_host.2.1 11 = .ok (.invokestatic 63, 3) := by decide +kernel
theorem d_Mo_host_14 : decode M_Mo_host.2.1 14 = .ok (.ifCond .eq 7, 3) := by decide +kernel
theorem d_Mo_host_17 : decode M_Mo_host.2.1 17 = .ok (.sipush (-501), 3) := by decide +kernel
theorem d_Mo_host_20 : decode M_Mo_host.2.1 20 = .ok (.ireturn, 1) := by decide +kernel
theorem d_Mo_host_21 : decode M_Mo_host.2.1 21 = .ok (.aload_n 0, 1) := by decide +kernel
theorem d_Mo_host_22 : decode M_Mo_host.2.1 22 = .ok (.getfield 25, 3) := by decide +kernel
theorem d_Mo_host_25 : decode M_Mo_host.2.1 25 = .ok (.iload_n 1, 1) := by decide +kernel
theorem d_Mo_host_26 : decode M_Mo_host.2.1 26 = .ok (.iaload, 1) := by decide +kernel
theorem d_Mo_host_27 : decode M_Mo_host.2.1 27 = .ok (.istore_n 3, 1) := by decide +kernel
theorem d_Mo_host_28 : decode M_Mo_host.2.1 28 = .ok (.aload_n 0, 1) := by decide +kernel
theorem d_Mo_host_29 : decode M_Mo_host.2.1 29 = .ok (.getfield 25, 3) := by decide +kernel
theorem d_Mo_host_32 : decode M_Mo_host.2.1 32 = .ok (.iload_n 1, 1) := by decide +kernel
theorem d_Mo_host_33 : decode M_Mo_host.2.1 33 = .ok (.iload_n 2, 1) := by decide +kernel
theorem d_Mo_host_34 : decode M_Mo_host.2.1 34 = .ok (.iastore, 1) := by decide +kernel
theorem d_Mo_host_35 : decode M_Mo_host.2.1 35 = .ok (.iload_n 3, 1) := by decide +kernel
theorem d_Mo_host_36 : decode M_Mo_host.2.1 36 = .ok (.ireturn, 1) := by decide +kernel
theorem d_Mo_from_0 : decode M_Mo_from.2.1 0 = .ok (.iload_n 1, 1) := by decide +kernel
theorem d_Mo_from_1 : decode M_Mo_from.2.1 1 = .ok (.iconst (-1), 1) := by decide +kernel
theorem d_Mo_from_2 : decode M_Mo_from.2.1 2 = .ok (.if_icmp .lt 9, 3) := by decide +kernel
theorem d_Mo_from_5 : decode M_Mo_from.2.1 5 = .ok (.iload_n 1, 1) := by decide +kernel
theorem d_Mo_from_6 : decode M_Mo_from.2.1 6 = .ok (.bipush 63, 2) := by decide +kernel
theorem d_Mo_from_8 : decode M_Mo_from.2.1 8 = .ok (.if_icmp .le 7, 3) := by decide +kernel
theorem d_Mo_from_11 : decode M_Mo_from.2.1 11 = .ok (.sipush (-501), 3) := by decide +kernel
theorem d_Mo_from_14 : decode M_Mo_from.2.1 14 = .ok (.ireturn, 1) := by decide +kernel
theorem d_Mo_from_15 : decode M_Mo_from.2.1 15 = .ok (.aload_n 0, 1) := by decide +kernel
theorem d_Mo_from_16 : decode M_Mo_from.2.1 16 = .ok (.iconst 1, 1) := by decide +kernel
theorem d_Mo_from_17 : decode M_Mo_from.2.1 17 = .ok (.putfield 67, 3) := by decide +kernel
theorem d_Mo_from_20 : decode M_Mo_from.2.1 20 = .ok (.aload_n 0, 1) := by decide +kernel
theorem d_Mo_from_21 : decode M_Mo_from.2.1 21 = .ok (.iload_n 1, 1) := by decide +kernel
theorem d_Mo_from_22 : decode M_Mo_from.2.1 22 = .ok (.putfield 71, 3) := by decide +kernel
theorem d_Mo_from_25 : decode M_Mo_from.2.1 25 = .ok (.aload_n 0, 1) := by decide +kernel
theorem d_Mo_from_26 : decode M_Mo_from.2.1 26 = .ok (.iconst 0, 1) := by decide +kernel
theorem d_Mo_from_27 : decode M_Mo_from.2.1 27 = .ok (.putfield 74, 3) := by decide +kernel
theorem d_Mo_from_30 : decode M_Mo_from.2.1 30 = .ok (.iconst 0, 1) := by decide +kernel
theorem d_Mo_from_31 : decode M_Mo_from.2.1 31 = .ok (.ireturn, 1) := by decide +kernel
theorem d_Mo_reached_0 : decode M_Mo_reached.2.1 0 = .ok (.lconst 1, 1) := by decide +kernel
theorem d_Mo_reached_1 : decode M_Mo_reached.2.1 1 = .ok (.iload_n 1, 1) := by decide +kernel
theorem d_Mo_reached_2 : decode M_Mo_reached.2.1 2 = .ok (.lshl, 1) := by decide +kernel
theorem d_Mo_reached_3 : decode M_Mo_reached.2.1 3 = .ok (.lstore_n 2, 1) := by decide +kernel
theorem d_Mo_reached_4 : decode M_Mo_reached.2.1 4 = .ok (.iconst 0, 1) := by decide +kernel
theorem d_Mo_reached_5 : decode M_Mo_reached.2.1 5 = .ok (.istore 4, 2) := by decide +kernel
theorem d_Mo_reached_7 : decode M_Mo_reached.2.1 7 = .ok (.iload 4, 2) := by decide +kernel
theorem d_Mo_reached_9 : decode M_Mo_reached.2.1 9 = .ok (.bipush 64, 2) := by decide +kernel
theorem d_Mo_reached_11 : decode M_Mo_reached.2.1 11 = .ok (.if_icmp .ge 66, 3) := by decide +kernel
theorem d_Mo_reached_14 : decode M_Mo_reached.2.1 14 = .ok (.iconst 0, 1) := by decide +kernel
theorem d_Mo_reached_15 : decode M_Mo_reached.2.1 15 = .ok (.istore 5, 2) := by decide +kernel
theorem d_Mo_reached_17 : decode M_Mo_reached.2.1 17 = .ok (.iload 5, 2) := by decide +kernel
theorem d_Mo_reached_19 : decode M_Mo_reached.2.1 19 = .ok (.bipush 32, 2) := by decide +kernel
theorem d_Mo_reached_21 : decode M_Mo_reached.2.1 21 = .ok (.if_icmp .ge 50, 3) := by decide +kernel
theorem d_Mo_reached_24 : decode M_Mo_reached.2.1 24 = .ok (.lload_n 2, 1) := by decide +kernel
theorem d_Mo_reached_25 : decode M_Mo_reached.2.1 25 = .ok (.iload 5, 2) := by decide +kernel
theorem d_Mo_reached_27 : decode M_Mo_reached.2.1 27 = .ok (.iconst 4, 1) := by decide +kernel
theorem d_Mo_reached_28 : decode M_Mo_reached.2.1 28 = .ok (.idiv, 1) := by decide +kernel
theorem d_Mo_reached_29 : decode M_Mo_reached.2.1 29 = .ok (.lshr, 1) := by decide +kernel
theorem d_Mo_reached_30 : decode M_Mo_reached.2.1 30 = .ok (.lconst 1, 1) := by decide +kernel
theorem d_Mo_reached_31 : decode M_Mo_reached.2.1 31 = .ok (.land, 1) := by decide +kernel
theorem d_Mo_reached_32 : decode M_Mo_reached.2.1 32 = .ok (.lconst 0, 1) := by decide +kernel
theorem d_Mo_reached_33 : decode M_Mo_reached.2.1 33 = .ok (.lcmp, 1) := by decide +kernel
theorem d_Mo_reached_34 : decode M_Mo_reached.2.1 34 = .ok (.ifCond .eq 31, 3) := by decide +kernel
theorem d_Mo_reached_37 : decode M_Mo_reached.2.1 37 = .ok (.iload 5, 2) := by decide +kernel
theorem d_Mo_reached_39 : decode M_Mo_reached.2.1 39 = .ok (.iconst 4, 1) := by decide +kernel
theorem d_Mo_reached_40 : decode M_Mo_reached.2.1 40 = .ok (.irem, 1) := by decide +kernel
theorem d_Mo_reached_41 : decode M_Mo_reached.2.1 41 = .ok (.aload_n 0, 1) := by decide +kernel
theorem d_Mo_reached_42 : decode M_Mo_reached.2.1 42 = .ok (.getfield 13, 3) := by decide +kernel
theorem d_Mo_reached_45 : decode M_Mo_reached.2.1 45 = .ok (.iload 5, 2) := by decide +kernel
theorem d_Mo_reached_47 : decode M_Mo_reached.2.1 47 = .ok (.iconst 4, 1) := by decide +kernel
theorem d_Mo_reached_48 : decode M_Mo_reached.2.1 48 = .ok (.idiv, 1) := by decide +kernel
theorem d_Mo_reached_49 : decode M_Mo_reached.2.1 49 = .ok (.iaload, 1) := by decide +kernel
theorem d_Mo_reached_50 : decode M_Mo_reached.2.1 50 = .ok (.if_icmp .ge 15, 3) := by decide +kernel
theorem d_Mo_reached_53 : decode M_Mo_reached.2.1 53 = .ok (.lload_n 2, 1) := by decide +kernel
theorem d_Mo_reached_54 : decode M_Mo_reached.2.1 54 = .ok (.lconst 1, 1) := by decide +kernel
theorem d_Mo_reached_55 : decode M_Mo_reached.2.1 55 = .ok (.aload_n 0, 1) := by decide +kernel
theorem d_Mo_reached_56 : decode M_Mo_reached.2.1 56 = .ok (.getfield 7, 3) := by decide +kernel
theorem d_Mo_reached_59 : decode M_Mo_reached.2.1 59 = .ok (.iload 5, 2) := by decide +kernel
theorem d_Mo_reached_61 : decode M_Mo_reached.2.1 61 = .ok (.iaload, 1) := by decide +kernel
theorem d_Mo_reached_62 : decode M_Mo_reached.2.1 62 = .ok (.lshl, 1) := by decide +kernel
theorem d_Mo_reached_63 : decode M_Mo_reached.2.1 63 = .ok (.lor, 1) := by decide +kernel
theorem d_Mo_reached_64 : decode M_Mo_reached.2.1 64 = .ok (.lstore_n 2, 1) := by decide +kernel
theorem d_Mo_reached_65 : decode M_Mo_reached.2.1 65 = .ok (.iinc 5 1, 3) := by decide +kernel
theorem d_Mo_reached_68 : decode M_Mo_reached.2.1 68 = .ok (.goto (-51), 3) := by decide +kernel
theorem d_Mo_reached_71 : decode M_Mo_reached.2.1 71 = .ok (.iinc 4 1, 3) := by decide +kernel
theorem d_Mo_reached_74 : decode M_Mo_reached.2.1 74 = .ok (.goto (-67), 3) := by decide +kernel
theorem d_Mo_reached_77 : decode M_Mo_reached.2.1 77 = .ok (.lload_n 2, 1) := by decide +kernel
theorem d_Mo_reached_78 : decode M_Mo_reached.2.1 78 = .ok (.lreturn, 1) := by decide +kernel
theorem d_Mo_named_0 : decode M_Mo_named.2.1 0 = .ok (.iconst 0, 1) := by decide +kernel
theorem d_Mo_named_1 : decode M_Mo_named.2.1 1 = .ok (.istore_n 2, 1) := by decide +kernel
theorem d_Mo_named_2 : decode M_Mo_named.2.1 2 = .ok (.iload_n 2, 1) := by decide +kernel
theorem d_Mo_named_3 : decode M_Mo_named.2.1 3 = .ok (.aload_n 0, 1) := by decide +kernel
theorem d_Mo_named_4 : decode M_Mo_named.2.1 4 = .ok (.getfield 74, 3) := by decide +kernel
theorem d_Mo_named_7 : decode M_Mo_named.2.1 7 = .ok (.if_icmp .ge 21, 3) := by decide +kernel
theorem d_Mo_named_10 : decode M_Mo_named.2.1 10 = .ok (.aload_n 0, 1) := by decide +kernel
theorem d_Mo_named_11 : decode M_Mo_named.2.1 11 = .ok (.getfield 34, 3) := by decide +kernel
theorem d_Mo_named_14 : decode M_Mo_named.2.1 14 = .ok (.iload_n 2, 1) := by decide +kernel
theorem d_Mo_named_15 : decode M_Mo_named.2.1 15 = .ok (.iaload, 1) := by decide +kernel
theorem d_Mo_named_16 : decode M_Mo_named.2.1 16 = .ok (.iload_n 1, 1) := by decide +kernel
theorem d_Mo_named_17 : decode M_Mo_named.2.1 17 = .ok (.if_icmp .ne 5, 3) := by decide +kernel
theorem d_Mo_named_20 : decode M_Mo_named.2.1 20 = .ok (.iconst 1, 1) := by decide +kernel
theorem d_Mo_named_21 : decode M_Mo_named.2.1 21 = .ok (.ireturn, 1) := by decide +kernel
theorem d_Mo_named_22 : decode M_Mo_named.2.1 22 = .ok (.iinc 2 1, 3) := by decide +kernel
theorem d_Mo_named_25 : decode M_Mo_named.2.1 25 = .ok (.goto (-23), 3) := by decide +kernel
theorem d_Mo_named_28 : decode M_Mo_named.2.1 28 = .ok (.iconst 0, 1) := by decide +kernel
theorem d_Mo_named_29 : decode M_Mo_named.2.1 29 = .ok (.ireturn, 1) := by decide +kernel
theorem d_Mo_to_0 : decode M_Mo_to.2.1 0 = .ok (.iload_n 1, 1) := by decide +kernel
theorem d_Mo_to_1 : decode M_Mo_to.2.1 1 = .ok (.bipush 63, 2) := by decide +kernel
theorem d_Mo_to_3 : decode M_Mo_to.2.1 3 = .ok (.invokestatic 63, 3) := by decide +kernel
theorem d_Mo_to_6 : decode M_Mo_to.2.1 6 = .ok (.ifCond .eq 7, 3) := by decide +kernel
theorem d_Mo_to_9 : decode M_Mo_to.2.1 9 = .ok (.sipush (-501), 3) := by decide +kernel
theorem d_Mo_to_12 : decode M_Mo_to.2.1 12 = .ok (.ireturn, 1) := by decide +kernel
theorem d_Mo_to_13 : decode M_Mo_to.2.1 13 = .ok (.aload_n 0, 1) := by decide +kernel
theorem d_Mo_to_14 : decode M_Mo_to.2.1 14 = .ok (.getfield 67, 3) := by decide +kernel
theorem d_Mo_to_17 : decode M_Mo_to.2.1 17 = .ok (.ifCond .ne 7, 3) := by decide +kernel
theorem d_Mo_to_20 : decode M_Mo_to.2.1 20 = .ok (.sipush (-503), 3) := by decide +kernel
theorem d_Mo_to_23 : decode M_Mo_to.2.1 23 = .ok (.ireturn, 1) := by decide +kernel
theorem d_Mo_to_24 : decode M_Mo_to.2.1 24 = .ok (.aload_n 0, 1) := by decide +kernel
theorem d_Mo_to_25 : decode M_Mo_to.2.1 25 = .ok (.iload_n 1, 1) := by decide +kernel
theorem d_Mo_to_26 : decode M_Mo_to.2.1 26 = .ok (.invokevirtual 77, 3) := by decide +kernel
theorem d_Mo_to_29 : decode M_Mo_to.2.1 29 = .ok (.lstore_n 2, 1) := by decide +kernel
theorem d_Mo_to_30 : decode M_Mo_to.2.1 30 = .ok (.iconst 0, 1) := by decide +kernel
theorem d_Mo_to_31 : decode M_Mo_to.2.1 31 = .ok (.istore 4, 2) := by decide +kernel
theorem d_Mo_to_33 : decode M_Mo_to.2.1 33 = .ok (.iconst 0, 1) := by decide +kernel
theorem d_Mo_to_34 : decode M_Mo_to.2.1 34 = .ok (.istore 5, 2) := by decide +kernel
theorem d_Mo_to_36 : decode M_Mo_to.2.1 36 = .ok (.iconst 0, 1) := by decide +kernel
theorem d_Mo_to_37 : decode M_Mo_to.2.1 37 = .ok (.istore 6, 2) := by decide +kernel
theorem d_Mo_to_39 : decode M_Mo_to.2.1 39 = .ok (.iload 6, 2) := by decide +kernel
theorem d_Mo_to_41 : decode M_Mo_to.2.1 41 = .ok (.bipush 64, 2) := by decide +kernel
theorem d_Mo_to_43 : decode M_Mo_to.2.1 43 = .ok (.if_icmp .ge 69, 3) := by decide +kernel
theorem d_Mo_to_46 : decode M_Mo_to.2.1 46 = .ok (.lload_n 2, 1) := by decide +kernel
theorem d_Mo_to_47 : decode M_Mo_to.2.1 47 = .ok (.iload 6, 2) := by decide +kernel
theorem d_Mo_to_49 : decode M_Mo_to.2.1 49 = .ok (.lshr, 1) := by decide +kernel
theorem d_Mo_to_50 : decode M_Mo_to.2.1 50 = .ok (.lconst 1, 1) := by decide +kernel
theorem d_Mo_to_51 : decode M_Mo_to.2.1 51 = .ok (.land, 1) := by decide +kernel
theorem d_Mo_to_52 : decode M_Mo_to.2.1 52 = .ok (.lconst 0, 1) := by decide +kernel
theorem d_Mo_to_53 : decode M_Mo_to.2.1 53 = .ok (.lcmp, 1) := by decide +kernel
theorem d_Mo_to_54 : decode M_Mo_to.2.1 54 = .ok (.ifCond .eq 24, 3) := by decide +kernel
theorem d_Mo_to_57 : decode M_Mo_to.2.1 57 = .ok (.iload 6, 2) := by decide +kernel
theorem d_Mo_to_59 : decode M_Mo_to.2.1 59 = .ok (.bipush 7, 2) := by decide +kernel
theorem d_Mo_to_61 : decode M_Mo_to.2.1 61 = .ok (.if_icmp .gt 13, 3) := by decide +kernel
theorem d_Mo_to_64 : decode M_Mo_to.2.1 64 = .ok (.aload_n 0, 1) := by decide +kernel
theorem d_Mo_to_65 : decode M_Mo_to.2.1 65 = .ok (.getfield 13, 3) := by decide +kernel
theorem d_Mo_to_68 : decode M_Mo_to.2.1 68 = .ok (.iload 6, 2) := by decide +kernel
theorem d_Mo_to_70 : decode M_Mo_to.2.1 70 = .ok (.iaload, 1) := by decide +kernel
theorem d_Mo_to_71 : decode M_Mo_to.2.1 71 = .ok (.ifCond .ne 7, 3) := by decide +kernel
theorem d_Mo_to_74 : decode M_Mo_to.2.1 74 = .ok (.iconst 1, 1) := by decide +kernel
theorem d_Mo_to_75 : decode M_Mo_to.2.1 75 = .ok (.goto 4, 3) := by decide +kernel
theorem d_Mo_to_78 : decode M_Mo_to.2.1 78 = .ok (.iconst 0, 1) := by decide +kernel
theorem d_Mo_to_79 : decode M_Mo_to.2.1 79 = .ok (.istore 7, 2) := by decide +kernel
theorem d_Mo_to_81 : decode M_Mo_to.2.1 81 = .ok (.iload 7, 2) := by decide +kernel
theorem d_Mo_to_83 : decode M_Mo_to.2.1 83 = .ok (.ifCond .eq 6, 3) := by decide +kernel
theorem d_Mo_to_86 : decode M_Mo_to.2.1 86 = .ok (.iinc 4 1, 3) := by decide +kernel
theorem d_Mo_to_89 : decode M_Mo_to.2.1 89 = .ok (.iload 7, 2) := by decide +kernel
theorem d_Mo_to_91 : decode M_Mo_to.2.1 91 = .ok (.ifCond .eq 15, 3) := by decide +kernel
theorem d_Mo_to_94 : decode M_Mo_to.2.1 94 = .ok (.aload_n 0, 1) := by decide +kernel
theorem d_Mo_to_95 : decode M_Mo_to.2.1 95 = .ok (.iload 6, 2) := by decide +kernel
theorem d_Mo_to_97 : decode M_Mo_to.2.1 97 = .ok (.invokevirtual 81, 3) := by decide +kernel
theorem d_Mo_to_100 : decode M_Mo_to.2.1 100 = .ok (.ifCond .ne 6, 3) := by decide +kernel
theorem d_Mo_to_103 : decode M_Mo_to.2.1 103 = .ok (.iinc 5 1, 3) := by decide +kernel
theorem d_Mo_to_106 : decode M_Mo_to.2.1 106 = .ok (.iinc 6 1, 3) := by decide +kernel
theorem d_Mo_to_109 : decode M_Mo_to.2.1 109 = .ok (.goto (-70), 3) := by decide +kernel
theorem d_Mo_to_112 : decode M_Mo_to.2.1 112 = .ok (.iload 4, 2) := by decide +kernel
theorem d_Mo_to_114 : decode M_Mo_to.2.1 114 = .ok (.ifCond .ne 7, 3) := by decide +kernel
theorem d_Mo_to_117 : decode M_Mo_to.2.1 117 = .ok (.sipush (-550), 3) := by decide +kernel
theorem d_Mo_to_120 : decode M_Mo_to.2.1 120 = .ok (.ireturn, 1) := by decide +kernel
theorem d_Mo_to_121 : decode M_Mo_to.2.1 121 = .ok (.aload_n 0, 1) := by decide +kernel
theorem d_Mo_to_122 : decode M_Mo_to.2.1 122 = .ok (.getfield 74, 3) := by decide +kernel
theorem d_Mo_to_125 : decode M_Mo_to.2.1 125 = .ok (.iload 5, 2) := by decide +kernel
theorem d_Mo_to_127 : decode M_Mo_to.2.1 127 = .ok (.iadd, 1) := by decide +kernel
theorem d_Mo_to_128 : decode M_Mo_to.2.1 128 = .ok (.iconst 4, 1) := by decide +kernel
theorem d_Mo_to_129 : decode M_Mo_to.2.1 129 = .ok (.if_icmp .le 7, 3) := by decide +kernel
theorem d_Mo_to_132 : decode M_Mo_to.2.1 132 = .ok (.sipush (-452), 3) := by decide +kernel
theorem d_Mo_to_135 : decode M_Mo_to.2.1 135 = .ok (.ireturn, 1) := by decide +kernel
theorem d_Mo_to_136 : decode M_Mo_to.2.1 136 = .ok (.iconst 0, 1) := by decide +kernel
theorem d_Mo_to_137 : decode M_Mo_to.2.1 137 = .ok (.istore 6, 2) := by decide +kernel
theorem d_Mo_to_139 : decode M_Mo_to.2.1 139 = .ok (.iload 6, 2) := by decide +kernel
theorem d_Mo_to_141 : decode M_Mo_to.2.1 141 = .ok (.bipush 64, 2) := by decide +kernel
theorem d_Mo_to_143 : decode M_Mo_to.2.1 143 = .ok (.if_icmp .ge 70, 3) := by decide +kernel
theorem d_Mo_to_146 : decode M_Mo_to.2.1 146 = .ok (.lload_n 2, 1) := by decide +kernel
theorem d_Mo_to_147 : decode M_Mo_to.2.1 147 = .ok (.iload 6, 2) := by decide +kernel
theorem d_Mo_to_149 : decode M_Mo_to.2.1 149 = .ok (.lshr, 1) := by decide +kernel
theorem d_Mo_to_150 : decode M_Mo_to.2.1 150 = .ok (.lconst 1, 1) := by decide +kernel
theorem d_Mo_to_151 : decode M_Mo_to.2.1 151 = .ok (.land, 1) := by decide +kernel
theorem d_Mo_to_152 : decode M_Mo_to.2.1 152 = .ok (.lconst 0, 1) := by decide +kernel
theorem d_Mo_to_153 : decode M_Mo_to.2.1 153 = .ok (.lcmp, 1) := by decide +kernel
theorem d_Mo_to_154 : decode M_Mo_to.2.1 154 = .ok (.ifCond .eq 53, 3) := by decide +kernel
theorem d_Mo_to_157 : decode M_Mo_to.2.1 157 = .ok (.iload 6, 2) := by decide +kernel
theorem d_Mo_to_159 : decode M_Mo_to.2.1 159 = .ok (.bipush 8, 2) := by decide +kernel
theorem d_Mo_to_161 : decode M_Mo_to.2.1 161 = .ok (.if_icmp .ge 13, 3) := by decide +kernel
theorem d_Mo_to_164 : decode M_Mo_to.2.1 164 = .ok (.aload_n 0, 1) := by decide +kernel
theorem d_Mo_to_165 : decode M_Mo_to.2.1 165 = .ok (.getfield 13, 3) := by decide +kernel
theorem d_Mo_to_168 : decode M_Mo_to.2.1 168 = .ok (.iload 6, 2) := by decide +kernel
theorem d_Mo_to_170 : decode M_Mo_to.2.1 170 = .ok (.iaload, 1) := by decide +kernel
theorem d_Mo_to_171 : decode M_Mo_to.2.1 171 = .ok (.ifCond .gt 36, 3) := by decide +kernel
theorem d_Mo_to_174 : decode M_Mo_to.2.1 174 = .ok (.aload_n 0, 1) := by decide +kernel
theorem d_Mo_to_175 : decode M_Mo_to.2.1 175 = .ok (.iload 6, 2) := by decide +kernel
theorem d_Mo_to_177 : decode M_Mo_to.2.1 177 = .ok (.invokevirtual 81, 3) := by decide +kernel
theorem d_Mo_to_180 : decode M_Mo_to.2.1 180 = .ok (.ifCond .eq 6, 3) := by decide +kernel
theorem d_Mo_to_183 : decode M_Mo_to.2.1 183 = .ok (.goto 24, 3) := by decide +kernel
theorem d_Mo_to_186 : decode M_Mo_to.2.1 186 = .ok (.aload_n 0, 1) := by decide +kernel
theorem d_Mo_to_187 : decode M_Mo_to.2.1 187 = .ok (.getfield 34, 3) := by decide +kernel
theorem d_Mo_to_190 : decode M_Mo_to.2.1 190 = .ok (.aload_n 0, 1) := by decide +kernel
theorem d_Mo_to_191 : decode M_Mo_to.2.1 191 = .ok (.getfield 74, 3) := by decide +kernel
theorem d_Mo_to_194 : decode M_Mo_to.2.1 194 = .ok (.iload 6, 2) := by decide +kernel
theorem d_Mo_to_196 : decode M_Mo_to.2.1 196 = .ok (.iastore, 1) := by decide +kernel
theorem d_Mo_to_197 : decode M_Mo_to.2.1 197 = .ok (.aload_n 0, 1) := by decide +kernel
theorem d_Mo_to_198 : decode M_Mo_to.2.1 198 = .ok (.dup, 1) := by decide +kernel
theorem d_Mo_to_199 : decode M_Mo_to.2.1 199 = .ok (.getfield 74, 3) := by decide +kernel
theorem d_Mo_to_202 : decode M_Mo_to.2.1 202 = .ok (.iconst 1, 1) := by decide +kernel
theorem d_Mo_to_203 : decode M_Mo_to.2.1 203 = .ok (.iadd, 1) := by decide +kernel
theorem d_Mo_to_204 : decode M_Mo_to.2.1 204 = .ok (.putfield 74, 3) := by decide +kernel
theorem d_Mo_to_207 : decode M_Mo_to.2.1 207 = .ok (.iinc 6 1, 3) := by decide +kernel
theorem d_Mo_to_210 : decode M_Mo_to.2.1 210 = .ok (.goto (-71), 3) := by decide +kernel
theorem d_Mo_to_213 : decode M_Mo_to.2.1 213 = .ok (.iload 5, 2) := by decide +kernel
theorem d_Mo_to_215 : decode M_Mo_to.2.1 215 = .ok (.ireturn, 1) := by decide +kernel
theorem d_Mo_costs_0 : decode M_Mo_costs.2.1 0 = .ok (.iconst 0, 1) := by decide +kernel
theorem d_Mo_costs_1 : decode M_Mo_costs.2.1 1 = .ok (.istore_n 1, 1) := by decide +kernel
theorem d_Mo_costs_2 : decode M_Mo_costs.2.1 2 = .ok (.iconst 0, 1) := by decide +kernel
theorem d_Mo_costs_3 : decode M_Mo_costs.2.1 3 = .ok (.istore_n 2, 1) := by decide +kernel
theorem d_Mo_costs_4 : decode M_Mo_costs.2.1 4 = .ok (.iload_n 2, 1) := by decide +kernel
theorem d_Mo_costs_5 : decode M_Mo_costs.2.1 5 = .ok (.aload_n 0, 1) := by decide +kernel
theorem d_Mo_costs_6 : decode M_Mo_costs.2.1 6 = .ok (.getfield 85, 3) := by decide +kernel
theorem d_Mo_costs_9 : decode M_Mo_costs.2.1 9 = .ok (.if_icmp .ge 37, 3) := by decide +kernel
theorem d_Mo_costs_12 : decode M_Mo_costs.2.1 12 = .ok (.iload_n 1, 1) := by decide +kernel
theorem d_Mo_costs_13 : decode M_Mo_costs.2.1 13 = .ok (.aload_n 0, 1) := by decide +kernel
theorem d_Mo_costs_14 : decode M_Mo_costs.2.1 14 = .ok (.getfield 28, 3) := by decide +kernel
theorem d_Mo_costs_17 : decode M_Mo_costs.2.1 17 = .ok (.bipush 16, 2) := by decide +kernel
theorem d_Mo_costs_19 : decode M_Mo_costs.2.1 19 = .ok (.iload_n 2, 1) := by decide +kernel
theorem d_Mo_costs_20 : decode M_Mo_costs.2.1 20 = .ok (.imul, 1) := by decide +kernel
theorem d_Mo_costs_21 : decode M_Mo_costs.2.1 21 = .ok (.iconst 2, 1) := by decide +kernel
theorem d_Mo_costs_22 : decode M_Mo_costs.2.1 22 = .ok (.iadd, 1) := by decide +kernel
theorem d_Mo_costs_23 : decode M_Mo_costs.2.1 23 = .ok (.iaload, 1) := by decide +kernel
theorem d_Mo_costs_24 : decode M_Mo_costs.2.1 24 = .ok (.aload_n 0, 1) := by decide +kernel
theorem d_Mo_costs_25 : decode M_Mo_costs.2.1 25 = .ok (.getfield 28, 3) := by decide +kernel
theorem d_Mo_costs_28 : decode M_Mo_costs.2.1 28 = .ok (.bipush 16, 2) := by decide +kernel
theorem d_Mo_costs_30 : decode M_Mo_costs.2.1 30 = .ok (.iload_n 2, 1) := by decide +kernel
theorem d_Mo_costs_31 : decode M_Mo_costs.2.1 31 = .ok (.imul, 1) := by decide +kernel
theorem d_Mo_costs_32 : decode M_Mo_costs.2.1 32 = .ok (.iconst 3, 1) := by decide +kernel
theorem d_Mo_costs_33 : decode M_Mo_costs.2.1 33 = .ok (.iadd, 1) := by decide +kernel
theorem d_Mo_costs_34 : decode M_Mo_costs.2.1 34 = .ok (.iaload, 1) := by decide +kernel
theorem d_Mo_costs_35 : decode M_Mo_costs.2.1 35 = .ok (.iadd, 1) := by decide +kernel
theorem d_Mo_costs_36 : decode M_Mo_costs.2.1 36 = .ok (.iconst 1, 1) := by decide +kernel
theorem d_Mo_costs_37 : decode M_Mo_costs.2.1 37 = .ok (.iadd, 1) := by decide +kernel
theorem d_Mo_costs_38 : decode M_Mo_costs.2.1 38 = .ok (.iadd, 1) := by decide +kernel
theorem d_Mo_costs_39 : decode M_Mo_costs.2.1 39 = .ok (.istore_n 1, 1) := by decide +kernel
theorem d_Mo_costs_40 : decode M_Mo_costs.2.1 40 = .ok (.iinc 2 1, 3) := by decide +kernel
theorem d_Mo_costs_43 : decode M_Mo_costs.2.1 43 = .ok (.goto (-39), 3) := by decide +kernel
theorem d_Mo_costs_46 : decode M_Mo_costs.2.1 46 = .ok (.iload_n 1, 1) := by decide +kernel
theorem d_Mo_costs_47 : decode M_Mo_costs.2.1 47 = .ok (.ireturn, 1) := by decide +kernel
theorem d_Mo_settle_0 : decode M_Mo_settle.2.1 0 = .ok (.aload_n 0, 1) := by decide +kernel
theorem d_Mo_settle_1 : decode M_Mo_settle.2.1 1 = .ok (.getfield 88, 3) := by decide +kernel
theorem d_Mo_settle_4 : decode M_Mo_settle.2.1 4 = .ok (.istore_n 1, 1) := by decide +kernel
theorem d_Mo_settle_5 : decode M_Mo_settle.2.1 5 = .ok (.iconst 0, 1) := by decide +kernel
theorem d_Mo_settle_6 : decode M_Mo_settle.2.1 6 = .ok (.istore_n 2, 1) := by decide +kernel
theorem d_Mo_settle_7 : decode M_Mo_settle.2.1 7 = .ok (.iload_n 2, 1) := by decide +kernel
theorem d_Mo_settle_8 : decode M_Mo_settle.2.1 8 = .ok (.bipush 96, 2) := by decide +kernel
theorem d_Mo_settle_10 : decode M_Mo_settle.2.1 10 = .ok (.if_icmp .ge 21, 3) := by decide +kernel
theorem d_Mo_settle_13 : decode M_Mo_settle.2.1 13 = .ok (.aload_n 0, 1) := by decide +kernel
theorem d_Mo_settle_14 : decode M_Mo_settle.2.1 14 = .ok (.getfield 31, 3) := by decide +kernel
theorem d_Mo_settle_17 : decode M_Mo_settle.2.1 17 = .ok (.iload_n 2, 1) := by decide +kernel
theorem d_Mo_settle_18 : decode M_Mo_settle.2.1 18 = .ok (.aload_n 0, 1) := by decide +kernel
theorem d_Mo_settle_19 : decode M_Mo_settle.2.1 19 = .ok (.getfield 28, 3) := by decide +kernel
theorem d_Mo_settle_22 : decode M_Mo_settle.2.1 22 = .ok (.iload_n 2, 1) := by decide +kernel
theorem d_Mo_settle_23 : decode M_Mo_settle.2.1 23 = .ok (.iaload, 1) := by decide +kernel
theorem d_Mo_settle_24 : decode M_Mo_settle.2.1 24 = .ok (.iastore, 1) := by decide +kernel
theorem d_Mo_settle_25 : decode M_Mo_settle.2.1 25 = .ok (.iinc 2 1, 3) := by decide +kernel
theorem d_Mo_settle_28 : decode M_Mo_settle.2.1 28 = .ok (.goto (-21), 3) := by decide +kernel
theorem d_Mo_settle_31 : decode M_Mo_settle.2.1 31 = .ok (.aload_n 0, 1) := by decide +kernel
theorem d_Mo_settle_32 : decode M_Mo_settle.2.1 32 = .ok (.aload_n 0, 1) := by decide +kernel
theorem d_Mo_settle_33 : decode M_Mo_settle.2.1 33 = .ok (.getfield 85, 3) := by decide +kernel
theorem d_Mo_settle_36 : decode M_Mo_settle.2.1 36 = .ok (.putfield 91, 3) := by decide +kernel
theorem d_Mo_settle_39 : decode M_Mo_settle.2.1 39 = .ok (.aload_n 0, 1) := by decide +kernel
theorem d_Mo_settle_40 : decode M_Mo_settle.2.1 40 = .ok (.iconst 0, 1) := by decide +kernel
theorem d_Mo_settle_41 : decode M_Mo_settle.2.1 41 = .ok (.putfield 88, 3) := by decide +kernel
theorem d_Mo_settle_44 : decode M_Mo_settle.2.1 44 = .ok (.iload_n 1, 1) := by decide +kernel
theorem d_Mo_settle_45 : decode M_Mo_settle.2.1 45 = .ok (.ireturn, 1) := by decide +kernel
theorem d_Mo_data_0 : decode M_Mo_data.2.1 0 = .ok (.iload_n 1, 1) := by decide +kernel
theorem d_Mo_data_1 : decode M_Mo_data.2.1 1 = .ok (.bipush 40, 2) := by decide +kernel
theorem d_Mo_data_3 : decode M_Mo_data.2.1 3 = .ok (.invokestatic 63, 3) := by decide +kernel
theorem d_Mo_data_6 : decode M_Mo_data.2.1 6 = .ok (.ifCond .eq 7, 3) := by decide +kernel
theorem d_Mo_data_9 : decode M_Mo_data.2.1 9 = .ok (.sipush (-501), 3) := by decide +kernel
theorem d_Mo_data_12 : decode M_Mo_data.2.1 12 = .ok (.ireturn, 1) := by decide +kernel
theorem d_Mo_data_13 : decode M_Mo_data.2.1 13 = .ok (.aload_n 0, 1) := by decide +kernel
theorem d_Mo_data_14 : decode M_Mo_data.2.1 14 = .ok (.getfield 67, 3) := by decide +kernel
theorem d_Mo_data_17 : decode M_Mo_data.2.1 17 = .ok (.ifCond .eq 10, 3) := by decide +kernel
theorem d_Mo_data_20 : decode M_Mo_data.2.1 20 = .ok (.aload_n 0, 1) := by decide +kernel
theorem d_Mo_data_21 : decode M_Mo_data.2.1 21 = .ok (.getfield 74, 3) := by decide +kernel
theorem d_Mo_data_24 : decode M_Mo_data.2.1 24 = .ok (.ifCond .ne 7, 3) := by decide +kernel
theorem d_Mo_data_27 : decode M_Mo_data.2.1 27 = .ok (.sipush (-503), 3) := by decide +kernel
theorem d_Mo_data_30 : decode M_Mo_data.2.1 30 = .ok (.ireturn, 1) := by decide +kernel
theorem d_Mo_data_31 : decode M_Mo_data.2.1 31 = .ok (.aload_n 0, 1) := by decide +kernel
theorem d_Mo_data_32 : decode M_Mo_data.2.1 32 = .ok (.getfield 85, 3) := by decide +kernel
theorem d_Mo_data_35 : decode M_Mo_data.2.1 35 = .ok (.bipush 6, 2) := by decide +kernel
theorem d_Mo_data_37 : decode M_Mo_data.2.1 37 = .ok (.if_icmp .eq 21, 3) := by decide +kernel
theorem d_Mo_data_40 : decode M_Mo_data.2.1 40 = .ok (.aload_n 0, 1) := by decide +kernel
theorem d_Mo_data_41 : decode M_Mo_data.2.1 41 = .ok (.invokevirtual 94, 3) := by decide +kernel
theorem d_Mo_data_44 : decode M_Mo_data.2.1 44 = .ok (.iload_n 1, 1) := by decide +kernel
theorem d_Mo_data_45 : decode M_Mo_data.2.1 45 = .ok (.iadd, 1) := by decide +kernel
theorem d_Mo_data_46 : decode M_Mo_data.2.1 46 = .ok (.aload_n 0, 1) := by decide +kernel
theorem d_Mo_data_47 : decode M_Mo_data.2.1 47 = .ok (.getfield 74, 3) := by decide +kernel
theorem d_Mo_data_50 : decode M_Mo_data.2.1 50 = .ok (.iadd, 1) := by decide +kernel
theorem d_Mo_data_51 : decode M_Mo_data.2.1 51 = .ok (.iconst 1, 1) := by decide +kernel
theorem d_Mo_data_52 : decode M_Mo_data.2.1 52 = .ok (.iadd, 1) := by decide +kernel
theorem d_Mo_data_53 : decode M_Mo_data.2.1 53 = .ok (.bipush 60, 2) := by decide +kernel
theorem d_Mo_data_55 : decode M_Mo_data.2.1 55 = .ok (.if_icmp .le 7, 3) := by decide +kernel
theorem d_Mo_data_58 : decode M_Mo_data.2.1 58 = .ok (.sipush (-452), 3) := by decide +kernel
theorem d_Mo_data_61 : decode M_Mo_data.2.1 61 = .ok (.ireturn, 1) := by decide +kernel
theorem d_Mo_data_62 : decode M_Mo_data.2.1 62 = .ok (.bipush 16, 2) := by decide +kernel
theorem d_Mo_data_64 : decode M_Mo_data.2.1 64 = .ok (.aload_n 0, 1) := by decide +kernel
theorem d_Mo_data_65 : decode M_Mo_data.2.1 65 = .ok (.getfield 85, 3) := by decide +kernel
theorem d_Mo_data_68 : decode M_Mo_data.2.1 68 = .ok (.imul, 1) := by decide +kernel
theorem d_Mo_data_69 : decode M_Mo_data.2.1 69 = .ok (.istore_n 2, 1) := by decide +kernel
theorem d_Mo_data_70 : decode M_Mo_data.2.1 70 = .ok (.aload_n 0, 1) := by decide +kernel
theorem d_Mo_data_71 : decode M_Mo_data.2.1 71 = .ok (.dup, 1) := by decide +kernel
theorem d_Mo_data_72 : decode M_Mo_data.2.1 72 = .ok (.getfield 98, 3) := by decide +kernel
theorem d_Mo_data_75 : decode M_Mo_data.2.1 75 = .ok (.iconst 1, 1) := by decide +kernel
theorem d_Mo_data_76 : decode M_Mo_data.2.1 76 = .ok (.iadd, 1) := by decide +kernel
theorem d_Mo_data_77 : decode M_Mo_data.2.1 77 = .ok (.putfield 98, 3) := by decide +kernel
theorem d_Mo_data_80 : decode M_Mo_data.2.1 80 = .ok (.aload_n 0, 1) := by decide +kernel
theorem d_Mo_data_81 : decode M_Mo_data.2.1 81 = .ok (.getfield 28, 3) := by decide +kernel
theorem d_Mo_data_84 : decode M_Mo_data.2.1 84 = .ok (.iload_n 2, 1) := by decide +kernel
theorem d_Mo_data_85 : decode M_Mo_data.2.1 85 = .ok (.aload_n 0, 1) := by decide +kernel
theorem d_Mo_data_86 : decode M_Mo_data.2.1 86 = .ok (.getfield 98, 3) := by decide +kernel
theorem d_Mo_data_89 : decode M_Mo_data.2.1 89 = .ok (.iastore, 1) := by decide +kernel
theorem d_Mo_data_90 : decode M_Mo_data.2.1 90 = .ok (.aload_n 0, 1) := by decide +kernel
theorem d_Mo_data_91 : decode M_Mo_data.2.1 91 = .ok (.getfield 28, 3) := by decide +kernel
theorem d_Mo_data_94 : decode M_Mo_data.2.1 94 = .ok (.iload_n 2, 1) := by decide +kernel
theorem d_Mo_data_95 : decode M_Mo_data.2.1 95 = .ok (.iconst 1, 1) := by decide +kernel
theorem d_Mo_data_96 : decode M_Mo_data.2.1 96 = .ok (.iadd, 1) := by decide +kernel
theorem d_Mo_data_97 : decode M_Mo_data.2.1 97 = .ok (.aload_n 0, 1) := by decide +kernel
theorem d_Mo_data_98 : decode M_Mo_data.2.1 98 = .ok (.getfield 71, 3) := by decide +kernel
theorem d_Mo_data_101 : decode M_Mo_data.2.1 101 = .ok (.iastore, 1) := by decide +kernel
theorem d_Mo_data_102 : decode M_Mo_data.2.1 102 = .ok (.aload_n 0, 1) := by decide +kernel
theorem d_Mo_data_103 : decode M_Mo_data.2.1 103 = .ok (.getfield 28, 3) := by decide +kernel
theorem d_Mo_data_106 : decode M_Mo_data.2.1 106 = .ok (.iload_n 2, 1) := by decide +kernel
theorem d_Mo_data_107 : decode M_Mo_data.2.1 107 = .ok (.iconst 2, 1) := by decide +kernel
theorem d_Mo_data_108 : decode M_Mo_data.2.1 108 = .ok (.iadd, 1) := by decide +kernel
theorem d_Mo_data_109 : decode M_Mo_data.2.1 109 = .ok (.iload_n 1, 1) := by decide +kernel
theorem d_Mo_data_110 : decode M_Mo_data.2.1 110 = .ok (.iastore, 1) := by decide +kernel
theorem d_Mo_data_111 : decode M_Mo_data.2.1 111 = .ok (.aload_n 0, 1) := by decide +kernel
theorem d_Mo_data_112 : decode M_Mo_data.2.1 112 = .ok (.getfield 28, 3) := by decide +kernel
theorem d_Mo_data_115 : decode M_Mo_data.2.1 115 = .ok (.iload_n 2, 1) := by decide +kernel
theorem d_Mo_data_116 : decode M_Mo_data.2.1 116 = .ok (.iconst 3, 1) := by decide +kernel
theorem d_Mo_data_117 : decode M_Mo_data.2.1 117 = .ok (.iadd, 1) := by decide +kernel
theorem d_Mo_data_118 : decode M_Mo_data.2.1 118 = .ok (.aload_n 0, 1) := by decide +kernel
theorem d_Mo_data_119 : decode M_Mo_data.2.1 119 = .ok (.getfield 74, 3) := by decide +kernel
theorem d_Mo_data_122 : decode M_Mo_data.2.1 122 = .ok (.iastore, 1) := by decide +kernel
theorem d_Mo_data_123 : decode M_Mo_data.2.1 123 = .ok (.iconst 0, 1) := by decide +kernel
theorem d_Mo_data_124 : decode M_Mo_data.2.1 124 = .ok (.istore_n 3, 1) := by decide +kernel
theorem d_Mo_data_125 : decode M_Mo_data.2.1 125 = .ok (.iload_n 3, 1) := by decide +kernel
theorem d_Mo_data_126 : decode M_Mo_data.2.1 126 = .ok (.aload_n 0, 1) := by decide +kernel
theorem d_Mo_data_127 : decode M_Mo_data.2.1 127 = .ok (.getfield 74, 3) := by decide +kernel
theorem d_Mo_data_130 : decode M_Mo_data.2.1 130 = .ok (.if_icmp .ge 37, 3) := by decide +kernel
theorem d_Mo_data_133 : decode M_Mo_data.2.1 133 = .ok (.aload_n 0, 1) := by decide +kernel
theorem d_Mo_data_134 : decode M_Mo_data.2.1 134 = .ok (.getfield 28, 3) := by decide +kernel
theorem d_Mo_data_137 : decode M_Mo_data.2.1 137 = .ok (.iload_n 2, 1) := by decide +kernel
theorem d_Mo_data_138 : decode M_Mo_data.2.1 138 = .ok (.iconst 4, 1) := by decide +kernel
theorem d_Mo_data_139 : decode M_Mo_data.2.1 139 = .ok (.iadd, 1) := by decide +kernel
theorem d_Mo_data_140 : decode M_Mo_data.2.1 140 = .ok (.iload_n 3, 1) := by decide +kernel
theorem d_Mo_data_141 : decode M_Mo_data.2.1 141 = .ok (.iadd, 1) := by decide +kernel
theorem d_Mo_data_142 : decode M_Mo_data.2.1 142 = .ok (.aload_n 0, 1) := by decide +kernel
theorem d_Mo_data_143 : decode M_Mo_data.2.1 143 = .ok (.getfield 34, 3) := by decide +kernel
theorem d_Mo_data_146 : decode M_Mo_data.2.1 146 = .ok (.iload_n 3, 1) := by decide +kernel
theorem d_Mo_data_147 : decode M_Mo_data.2.1 147 = .ok (.iaload, 1) := by decide +kernel
theorem d_Mo_data_148 : decode M_Mo_data.2.1 148 = .ok (.iastore, 1) := by decide +kernel
theorem d_Mo_data_149 : decode M_Mo_data.2.1 149 = .ok (.aload_n 0, 1) := by decide +kernel
theorem d_Mo_data_150 : decode M_Mo_data.2.1 150 = .ok (.getfield 28, 3) := by decide +kernel
theorem d_Mo_data_153 : decode M_Mo_data.2.1 153 = .ok (.iload_n 2, 1) := by decide +kernel
theorem d_Mo_data_154 : decode M_Mo_data.2.1 154 = .ok (.bipush 8, 2) := by decide +kernel
theorem d_Mo_data_156 : decode M_Mo_data.2.1 156 = .ok (.iadd, 1) := by decide +kernel
theorem d_Mo_data_157 : decode M_Mo_data.2.1 157 = .ok (.iload_n 3, 1) := by decide +kernel
theorem d_Mo_data_158 : decode M_Mo_data.2.1 158 = .ok (.iadd, 1) := by decide +kernel
theorem d_Mo_data_159 : decode M_Mo_data.2.1 159 = .ok (.iconst 1, 1) := by decide +kernel
theorem d_Mo_data_160 : decode M_Mo_data.2.1 160 = .ok (.iastore, 1) := by decide +kernel
theorem d_Mo_data_161 : decode M_Mo_data.2.1 161 = .ok (.iinc 3 1, 3) := by decide +kernel
theorem d_Mo_data_164 : decode M_Mo_data.2.1 164 = .ok (.goto (-39), 3) := by decide +kernel
theorem d_Mo_data_167 : decode M_Mo_data.2.1 167 = .ok (.aload_n 0, 1) := by decide +kernel
theorem d_Mo_data_168 : decode M_Mo_data.2.1 168 = .ok (.getfield 28, 3) := by decide +kernel
theorem d_Mo_data_171 : decode M_Mo_data.2.1 171 = .ok (.iload_n 2, 1) := by decide +kernel
theorem d_Mo_data_172 : decode M_Mo_data.2.1 172 = .ok (.bipush 12, 2) := by decide +kernel
theorem d_Mo_data_174 : decode M_Mo_data.2.1 174 = .ok (.iadd, 1) := by decide +kernel
theorem d_Mo_data_175 : decode M_Mo_data.2.1 175 = .ok (.aload_n 0, 1) := by decide +kernel
theorem d_Mo_data_176 : decode M_Mo_data.2.1 176 = .ok (.getfield 101, 3) := by decide +kernel
theorem d_Mo_data_179 : decode M_Mo_data.2.1 179 = .ok (.iastore, 1) := by decide +kernel
theorem d_Mo_data_180 : decode M_Mo_data.2.1 180 = .ok (.aload_n 0, 1) := by decide +kernel
theorem d_Mo_data_181 : decode M_Mo_data.2.1 181 = .ok (.getfield 28, 3) := by decide +kernel
theorem d_Mo_data_184 : decode M_Mo_data.2.1 184 = .ok (.iload_n 2, 1) := by decide +kernel
theorem d_Mo_data_185 : decode M_Mo_data.2.1 185 = .ok (.bipush 13, 2) := by decide +kernel
theorem d_Mo_data_187 : decode M_Mo_data.2.1 187 = .ok (.iadd, 1) := by decide +kernel
theorem d_Mo_data_188 : decode M_Mo_data.2.1 188 = .ok (.aload_n 0, 1) := by decide +kernel
theorem d_Mo_data_189 : decode M_Mo_data.2.1 189 = .ok (.getfield 101, 3) := by decide +kernel
theorem d_Mo_data_192 : decode M_Mo_data.2.1 192 = .ok (.iastore, 1) := by decide +kernel
theorem d_Mo_data_193 : decode M_Mo_data.2.1 193 = .ok (.aload_n 0, 1) := by decide +kernel
theorem d_Mo_data_194 : decode M_Mo_data.2.1 194 = .ok (.getfield 28, 3) := by decide +kernel
theorem d_Mo_data_197 : decode M_Mo_data.2.1 197 = .ok (.iload_n 2, 1) := by decide +kernel
theorem d_Mo_data_198 : decode M_Mo_data.2.1 198 = .ok (.bipush 14, 2) := by decide +kernel
theorem d_Mo_data_200 : decode M_Mo_data.2.1 200 = .ok (.iadd, 1) := by decide +kernel
theorem d_Mo_data_201 : decode M_Mo_data.2.1 201 = .ok (.aload_n 0, 1) := by decide +kernel
theorem d_Mo_data_202 : decode M_Mo_data.2.1 202 = .ok (.getfield 53, 3) := by decide +kernel
theorem d_Mo_data_205 : decode M_Mo_data.2.1 205 = .ok (.iastore, 1) := by decide +kernel
theorem d_Mo_data_206 : decode M_Mo_data.2.1 206 = .ok (.aload_n 0, 1) := by decide +kernel
theorem d_Mo_data_207 : decode M_Mo_data.2.1 207 = .ok (.getfield 28, 3) := by decide +kernel
theorem d_Mo_data_210 : decode M_Mo_data.2.1 210 = .ok (.iload_n 2, 1) := by decide +kernel
theorem d_Mo_data_211 : decode M_Mo_data.2.1 211 = .ok (.bipush 15, 2) := by decide +kernel
theorem d_Mo_data_213 : decode M_Mo_data.2.1 213 = .ok (.iadd, 1) := by decide +kernel
theorem d_Mo_data_214 : decode M_Mo_data.2.1 214 = .ok (.iconst 0, 1) := by decide +kernel
theorem d_Mo_data_215 : decode M_Mo_data.2.1 215 = .ok (.iastore, 1) := by decide +kernel
theorem d_Mo_data_216 : decode M_Mo_data.2.1 216 = .ok (.aload_n 0, 1) := by decide +kernel
theorem d_Mo_data_217 : decode M_Mo_data.2.1 217 = .ok (.dup, 1) := by decide +kernel
theorem d_Mo_data_218 : decode M_Mo_data.2.1 218 = .ok (.getfield 85, 3) := by decide +kernel
theorem d_Mo_data_221 : decode M_Mo_data.2.1 221 = .ok (.iconst 1, 1) := by decide +kernel
theorem d_Mo_data_222 : decode M_Mo_data.2.1 222 = .ok (.iadd, 1) := by decide +kernel
theorem d_Mo_data_223 : decode M_Mo_data.2.1 223 = .ok (.putfield 85, 3) := by decide +kernel
theorem d_Mo_data_226 : decode M_Mo_data.2.1 226 = .ok (.aload_n 0, 1) := by decide +kernel
theorem d_Mo_data_227 : decode M_Mo_data.2.1 227 = .ok (.iconst 0, 1) := by decide +kernel
theorem d_Mo_data_228 : decode M_Mo_data.2.1 228 = .ok (.putfield 67, 3) := by decide +kernel
theorem d_Mo_data_231 : decode M_Mo_data.2.1 231 = .ok (.aload_n 0, 1) := by decide +kernel
theorem d_Mo_data_232 : decode M_Mo_data.2.1 232 = .ok (.invokevirtual 104, 3) := by decide +kernel
theorem d_Mo_data_235 : decode M_Mo_data.2.1 235 = .ok (.pop, 1) := by decide +kernel
theorem d_Mo_data_236 : decode M_Mo_data.2.1 236 = .ok (.aload_n 0, 1) := by decide +kernel
theorem d_Mo_data_237 : decode M_Mo_data.2.1 237 = .ok (.getfield 98, 3) := by decide +kernel
theorem d_Mo_data_240 : decode M_Mo_data.2.1 240 = .ok (.ireturn, 1) := by decide +kernel
theorem d_Mo_carrier_0 : decode M_Mo_carrier.2.1 0 = .ok (.aload_n 0, 1) := by decide +kernel
theorem d_Mo_carrier_1 : decode M_Mo_carrier.2.1 1 = .ok (.getfield 22, 3) := by decide +kernel
theorem d_Mo_carrier_4 : decode M_Mo_carrier.2.1 4 = .ok (.iload_n 1, 1) := by decide +kernel
theorem d_Mo_carrier_5 : decode M_Mo_carrier.2.1 5 = .ok (.iaload, 1) := by decide +kernel
theorem d_Mo_carrier_6 : decode M_Mo_carrier.2.1 6 = .ok (.ifCond .ne 6, 3) := by decide +kernel
theorem d_Mo_carrier_9 : decode M_Mo_carrier.2.1 9 = .ok (.bipush 8, 2) := by decide +kernel
theorem d_Mo_carrier_11 : decode M_Mo_carrier.2.1 11 = .ok (.ireturn, 1) := by decide +kernel
theorem d_Mo_carrier_12 : decode M_Mo_carrier.2.1 12 = .ok (.iconst (-1), 1) := by decide +kernel
theorem d_Mo_carrier_13 : decode M_Mo_carrier.2.1 13 = .ok (.istore_n 2, 1) := by decide +kernel
theorem d_Mo_carrier_14 : decode M_Mo_carrier.2.1 14 = .ok (.iconst 0, 1) := by decide +kernel
theorem d_Mo_carrier_15 : decode M_Mo_carrier.2.1 15 = .ok (.istore_n 3, 1) := by decide +kernel
theorem d_Mo_carrier_16 : decode M_Mo_carrier.2.1 16 = .ok (.iload_n 3, 1) := by decide +kernel
theorem d_Mo_carrier_17 : decode M_Mo_carrier.2.1 17 = .ok (.aload_n 0, 1) := by decide +kernel
theorem d_Mo_carrier_18 : decode M_Mo_carrier.2.1 18 = .ok (.getfield 22, 3) := by decide +kernel
theorem d_Mo_carrier_21 : decode M_Mo_carrier.2.1 21 = .ok (.iload_n 1, 1) := by decide +kernel
theorem d_Mo_carrier_22 : decode M_Mo_carrier.2.1 22 = .ok (.iaload, 1) := by decide +kernel
theorem d_Mo_carrier_23 : decode M_Mo_carrier.2.1 23 = .ok (.if_icmp .ge 119, 3) := by decide +kernel
theorem d_Mo_carrier_26 : decode M_Mo_carrier.2.1 26 = .ok (.iconst (-1), 1) := by decide +kernel
theorem d_Mo_carrier_27 : decode M_Mo_carrier.2.1 27 = .ok (.istore 4, 2) := by decide +kernel
theorem d_Mo_carrier_29 : decode M_Mo_carrier.2.1 29 = .ok (.iconst 3, 1) := by decide +kernel
theorem d_Mo_carrier_30 : decode M_Mo_carrier.2.1 30 = .ok (.iload_n 1, 1) := by decide +kernel
theorem d_Mo_carrier_31 : decode M_Mo_carrier.2.1 31 = .ok (.imul, 1) := by decide +kernel
theorem d_Mo_carrier_32 : decode M_Mo_carrier.2.1 32 = .ok (.istore 5, 2) := by decide +kernel
theorem d_Mo_carrier_34 : decode M_Mo_carrier.2.1 34 = .ok (.iload 5, 2) := by decide +kernel
theorem d_Mo_carrier_36 : decode M_Mo_carrier.2.1 36 = .ok (.iconst 3, 1) := by decide +kernel
theorem d_Mo_carrier_37 : decode M_Mo_carrier.2.1 37 = .ok (.iload_n 1, 1) := by decide +kernel
theorem d_Mo_carrier_38 : decode M_Mo_carrier.2.1 38 = .ok (.imul, 1) := by decide +kernel
theorem d_Mo_carrier_39 : decode M_Mo_carrier.2.1 39 = .ok (.aload_n 0, 1) := by decide +kernel
theorem d_Mo_carrier_40 : decode M_Mo_carrier.2.1 40 = .ok (.getfield 22, 3) := by decide +kernel
theorem d_Mo_carrier_43 : decode M_Mo_carrier.2.1 43 = .ok (.iload_n 1, 1) := by decide +kernel
theorem d_Mo_carrier_44 : decode M_Mo_carrier.2.1 44 = .ok (.iaload, 1) := by decide +kernel
theorem d_Mo_carrier_45 : decode M_Mo_carrier.2.1 45 = .ok (.iadd, 1) := by decide +kernel
theorem d_Mo_carrier_46 : decode M_Mo_carrier.2.1 46 = .ok (.if_icmp .ge 46, 3) := by decide +kernel
theorem d_Mo_carrier_49 : decode M_Mo_carrier.2.1 49 = .ok (.aload_n 0, 1) := by decide +kernel
theorem d_Mo_carrier_50 : decode M_Mo_carrier.2.1 50 = .ok (.getfield 19, 3) := by decide +kernel
theorem d_Mo_carrier_53 : decode M_Mo_carrier.2.1 53 = .ok (.iload 5, 2) := by decide +kernel
theorem d_Mo_carrier_55 : decode M_Mo_carrier.2.1 55 = .ok (.iaload, 1) := by decide +kernel
theorem d_Mo_carrier_56 : decode M_Mo_carrier.2.1 56 = .ok (.iload_n 2, 1) := by decide +kernel
theorem d_Mo_carrier_57 : decode M_Mo_carrier.2.1 57 = .ok (.if_icmp .le 29, 3) := by decide +kernel
theorem d_Mo_carrier_60 : decode M_Mo_carrier.2.1 60 = .ok (.iload 4, 2) := by decide +kernel
theorem d_Mo_carrier_62 : decode M_Mo_carrier.2.1 62 = .ok (.ifCond .lt 20, 3) := by decide +kernel
theorem d_Mo_carrier_65 : decode M_Mo_carrier.2.1 65 = .ok (.aload_n 0, 1) := by decide +kernel
theorem d_Mo_carrier_66 : decode M_Mo_carrier.2.1 66 = .ok (.getfield 19, 3) := by decide +kernel
theorem d_Mo_carrier_69 : decode M_Mo_carrier.2.1 69 = .ok (.iload 5, 2) := by decide +kernel
theorem d_Mo_carrier_71 : decode M_Mo_carrier.2.1 71 = .ok (.iaload, 1) := by decide +kernel
theorem d_Mo_carrier_72 : decode M_Mo_carrier.2.1 72 = .ok (.aload_n 0, 1) := by decide +kernel
theorem d_Mo_carrier_73 : decode M_Mo_carrier.2.1 73 = .ok (.getfield 19, 3) := by decide +kernel
theorem d_Mo_carrier_76 : decode M_Mo_carrier.2.1 76 = .ok (.iload 4, 2) := by decide +kernel
theorem d_Mo_carrier_78 : decode M_Mo_carrier.2.1 78 = .ok (.iaload, 1) := by decide +kernel
theorem d_Mo_carrier_79 : decode M_Mo_carrier.2.1 79 = .ok (.if_icmp .ge 7, 3) := by decide +kernel
theorem d_Mo_carrier_82 : decode M_Mo_carrier.2.1 82 = .ok (.iload 5, 2) := by decide +kernel
theorem d_Mo_carrier_84 : decode M_Mo_carrier.2.1 84 = .ok (.istore 4, 2) := by decide +kernel
theorem d_Mo_carrier_86 : decode M_Mo_carrier.2.1 86 = .ok (.iinc 5 1, 3) := by decide +kernel
theorem d_Mo_carrier_89 : decode M_Mo_carrier.2.1 89 = .ok (.goto (-55), 3) := by decide +kernel
theorem d_Mo_carrier_92 : decode M_Mo_carrier.2.1 92 = .ok (.aload_n 0, 1) := by decide +kernel
theorem d_Mo_carrier_93 : decode M_Mo_carrier.2.1 93 = .ok (.getfield 16, 3) := by decide +kernel
theorem d_Mo_carrier_96 : decode M_Mo_carrier.2.1 96 = .ok (.iload 4, 2) := by decide +kernel
theorem d_Mo_carrier_98 : decode M_Mo_carrier.2.1 98 = .ok (.iaload, 1) := by decide +kernel
theorem d_Mo_carrier_99 : decode M_Mo_carrier.2.1 99 = .ok (.istore 5, 2) := by decide +kernel
theorem d_Mo_carrier_101 : decode M_Mo_carrier.2.1 101 = .ok (.aload_n 0, 1) := by decide +kernel
theorem d_Mo_carrier_102 : decode M_Mo_carrier.2.1 102 = .ok (.getfield 25, 3) := by decide +kernel
theorem d_Mo_carrier_105 : decode M_Mo_carrier.2.1 105 = .ok (.iload 5, 2) := by decide +kernel
theorem d_Mo_carrier_107 : decode M_Mo_carrier.2.1 107 = .ok (.iaload, 1) := by decide +kernel
theorem d_Mo_carrier_108 : decode M_Mo_carrier.2.1 108 = .ok (.ifCond .ne 6, 3) := by decide +kernel
theorem d_Mo_carrier_111 : decode M_Mo_carrier.2.1 111 = .ok (.iload 5, 2) := by decide +kernel
theorem d_Mo_carrier_113 : decode M_Mo_carrier.2.1 113 = .ok (.ireturn, 1) := by decide +kernel
theorem d_Mo_carrier_114 : decode M_Mo_carrier.2.1 114 = .ok (.aload_n 0, 1) := by decide +kernel
theorem d_Mo_carrier_115 : decode M_Mo_carrier.2.1 115 = .ok (.getfield 25, 3) := by decide +kernel
theorem d_Mo_carrier_118 : decode M_Mo_carrier.2.1 118 = .ok (.iload 5, 2) := by decide +kernel
theorem d_Mo_carrier_120 : decode M_Mo_carrier.2.1 120 = .ok (.iaload, 1) := by decide +kernel
theorem d_Mo_carrier_121 : decode M_Mo_carrier.2.1 121 = .ok (.iconst 2, 1) := by decide +kernel
theorem d_Mo_carrier_122 : decode M_Mo_carrier.2.1 122 = .ok (.if_icmp .ne 6, 3) := by decide +kernel
theorem d_Mo_carrier_125 : decode M_Mo_carrier.2.1 125 = .ok (.bipush 8, 2) := by decide +kernel
theorem d_Mo_carrier_127 : decode M_Mo_carrier.2.1 127 = .ok (.ireturn, 1) := by decide +kernel
theorem d_Mo_carrier_128 : decode M_Mo_carrier.2.1 128 = .ok (.aload_n 0, 1) := by decide +kernel
theorem d_Mo_carrier_129 : decode M_Mo_carrier.2.1 129 = .ok (.getfield 19, 3) := by decide +kernel
theorem d_Mo_carrier_132 : decode M_Mo_carrier.2.1 132 = .ok (.iload 4, 2) := by decide +kernel
theorem d_Mo_carrier_134 : decode M_Mo_carrier.2.1 134 = .ok (.iaload, 1) := by decide +kernel
theorem d_Mo_carrier_135 : decode M_Mo_carrier.2.1 135 = .ok (.istore_n 2, 1) := by decide +kernel
theorem d_Mo_carrier_136 : decode M_Mo_carrier.2.1 136 = .ok (.iinc 3 1, 3) := by decide +kernel
theorem d_Mo_carrier_139 : decode M_Mo_carrier.2.1 139 = .ok (.goto (-123), 3) := by decide +kernel
theorem d_Mo_carrier_142 : decode M_Mo_carrier.2.1 142 = .ok (.bipush 9, 2) := by decide +kernel
theorem d_Mo_carrier_144 : decode M_Mo_carrier.2.1 144 = .ok (.ireturn, 1) := by decide +kernel
theorem d_Mo_states_0 : decode M_Mo_states.2.1 0 = .ok (.iconst 0, 1) := by decide +kernel
theorem d_Mo_states_1 : decode M_Mo_states.2.1 1 = .ok (.istore_n 3, 1) := by decide +kernel
theorem d_Mo_states_2 : decode M_Mo_states.2.1 2 = .ok (.iconst 0, 1) := by decide +kernel
theorem d_Mo_states_3 : decode M_Mo_states.2.1 3 = .ok (.istore 4, 2) := by decide +kernel
theorem d_Mo_states_5 : decode M_Mo_states.2.1 5 = .ok (.iload 4, 2) := by decide +kernel
theorem d_Mo_states_7 : decode M_Mo_states.2.1 7 = .ok (.aload_n 0, 1) := by decide +kernel
theorem d_Mo_states_8 : decode M_Mo_states.2.1 8 = .ok (.getfield 28, 3) := by decide +kernel
theorem d_Mo_states_11 : decode M_Mo_states.2.1 11 = .ok (.iload_n 1, 1) := by decide +kernel
theorem d_Mo_states_12 : decode M_Mo_states.2.1 12 = .ok (.iconst 3, 1) := by decide +kernel
theorem d_Mo_states_13 : decode M_Mo_states.2.1 13 = .ok (.iadd, 1) := by decide +kernel
theorem d_Mo_states_14 : decode M_Mo_states.2.1 14 = .ok (.iaload, 1) := by decide +kernel
theorem d_Mo_states_15 : decode M_Mo_states.2.1 15 = .ok (.if_icmp .ge 28, 3) := by decide +kernel
theorem d_Mo_states_18 : decode M_Mo_states.2.1 18 = .ok (.aload_n 0, 1) := by decide +kernel
theorem d_Mo_states_19 : decode M_Mo_states.2.1 19 = .ok (.getfield 28, 3) := by decide +kernel
theorem d_Mo_states_22 : decode M_Mo_states.2.1 22 = .ok (.iload_n 1, 1) := by decide +kernel
theorem d_Mo_states_23 : decode M_Mo_states.2.1 23 = .ok (.bipush 8, 2) := by decide +kernel
theorem d_Mo_states_25 : decode M_Mo_states.2.1 25 = .ok (.iadd, 1) := by decide +kernel
theorem d_Mo_states_26 : decode M_Mo_states.2.1 26 = .ok (.iload 4, 2) := by decide +kernel
theorem d_Mo_states_28 : decode M_Mo_states.2.1 28 = .ok (.iadd, 1) := by decide +kernel
theorem d_Mo_states_29 : decode M_Mo_states.2.1 29 = .ok (.iaload, 1) := by decide +kernel
theorem d_Mo_states_30 : decode M_Mo_states.2.1 30 = .ok (.iload_n 2, 1) := by decide +kernel
theorem d_Mo_states_31 : decode M_Mo_states.2.1 31 = .ok (.if_icmp .ne 6, 3) := by decide +kernel
theorem d_Mo_states_34 : decode M_Mo_states.2.1 34 = .ok (.iinc 3 1, 3) := by decide +kernel
theorem d_Mo_states_37 : decode M_Mo_states.2.1 37 = .ok (.iinc 4 1, 3) := by decide +kernel
theorem d_Mo_states_40 : decode M_Mo_states.2.1 40 = .ok (.goto (-35), 3) := by decide +kernel
theorem d_Mo_states_43 : decode M_Mo_states.2.1 43 = .ok (.iload_n 3, 1) := by decide +kernel
theorem d_Mo_states_44 : decode M_Mo_states.2.1 44 = .ok (.ireturn, 1) := by decide +kernel
theorem d_Mo_mark_0 : decode M_Mo_mark.2.1 0 = .ok (.aload_n 0, 1) := by decide +kernel
theorem d_Mo_mark_1 : decode M_Mo_mark.2.1 1 = .ok (.getfield 28, 3) := by decide +kernel
theorem d_Mo_mark_4 : decode M_Mo_mark.2.1 4 = .ok (.iload_n 1, 1) := by decide +kernel
theorem d_Mo_mark_5 : decode M_Mo_mark.2.1 5 = .ok (.iload_n 2, 1) := by decide +kernel
theorem d_Mo_mark_6 : decode M_Mo_mark.2.1 6 = .ok (.iastore, 1) := by decide +kernel
theorem d_Mo_mark_7 : decode M_Mo_mark.2.1 7 = .ok (.aload_n 0, 1) := by decide +kernel
theorem d_Mo_mark_8 : decode M_Mo_mark.2.1 8 = .ok (.dup, 1) := by decide +kernel
theorem d_Mo_mark_9 : decode M_Mo_mark.2.1 9 = .ok (.getfield 88, 3) := by decide +kernel
theorem d_Mo_mark_12 : decode M_Mo_mark.2.1 12 = .ok (.iconst 1, 1) := by decide +kernel
theorem d_Mo_mark_13 : decode M_Mo_mark.2.1 13 = .ok (.iadd, 1) := by decide +kernel
theorem d_Mo_mark_14 : decode M_Mo_mark.2.1 14 = .ok (.putfield 88, 3) := by decide +kernel
theorem d_Mo_mark_17 : decode M_Mo_mark.2.1 17 = .ok (.return_, 1) := by decide +kernel
theorem d_Mo_deliver_0 : decode M_Mo_deliver.2.1 0 = .ok (.aload_n 0, 1) := by decide +kernel
theorem d_Mo_deliver_1 : decode M_Mo_deliver.2.1 1 = .ok (.getfield 28, 3) := by decide +kernel
theorem d_Mo_deliver_4 : decode M_Mo_deliver.2.1 4 = .ok (.iload_n 1, 1) := by decide +kernel
theorem d_Mo_deliver_5 : decode M_Mo_deliver.2.1 5 = .ok (.bipush 15, 2) := by decide +kernel
theorem d_Mo_deliver_7 : decode M_Mo_deliver.2.1 7 = .ok (.iadd, 1) := by decide +kernel
theorem d_Mo_deliver_8 : decode M_Mo_deliver.2.1 8 = .ok (.iaload, 1) := by decide +kernel
theorem d_Mo_deliver_9 : decode M_Mo_deliver.2.1 9 = .ok (.iconst 1, 1) := by decide +kernel
theorem d_Mo_deliver_10 : decode M_Mo_deliver.2.1 10 = .ok (.if_icmp .ne 16, 3) := by decide +kernel
theorem d_Mo_deliver_13 : decode M_Mo_deliver.2.1 13 = .ok (.aload_n 0, 1) := by decide +kernel
theorem d_Mo_deliver_14 : decode M_Mo_deliver.2.1 14 = .ok (.getfield 40, 3) := by decide +kernel
theorem d_Mo_deliver_17 : decode M_Mo_deliver.2.1 17 = .ok (.iload_n 2, 1) := by decide +kernel
theorem d_Mo_deliver_18 : decode M_Mo_deliver.2.1 18 = .ok (.dup2, 1) := by decide +kernel
theorem d_Mo_deliver_19 : decode M_Mo_deliver.2.1 19 = .ok (.iaload, 1) := by decide +kernel
theorem d_Mo_deliver_20 : decode M_Mo_deliver.2.1 20 = .ok (.iconst 1, 1) := by decide +kernel
theorem d_Mo_deliver_21 : decode M_Mo_deliver.2.1 21 = .ok (.iadd, 1) := by decide +kernel
theorem d_Mo_deliver_22 : decode M_Mo_deliver.2.1 22 = .ok (.iastore, 1) := by decide +kernel
theorem d_Mo_deliver_23 : decode M_Mo_deliver.2.1 23 = .ok (.goto 13, 3) := by decide +kernel
theorem d_Mo_deliver_26 : decode M_Mo_deliver.2.1 26 = .ok (.aload_n 0, 1) := by decide +kernel
theorem d_Mo_deliver_27 : decode M_Mo_deliver.2.1 27 = .ok (.getfield 37, 3) := by decide +kernel
theorem d_Mo_deliver_30 : decode M_Mo_deliver.2.1 30 = .ok (.iload_n 2, 1) := by decide +kernel
theorem d_Mo_deliver_31 : decode M_Mo_deliver.2.1 31 = .ok (.dup2, 1) := by decide +kernel
theorem d_Mo_deliver_32 : decode M_Mo_deliver.2.1 32 = .ok (.iaload, 1) := by decide +kernel
theorem d_Mo_deliver_33 : decode M_Mo_deliver.2.1 33 = .ok (.iconst 1, 1) := by decide +kernel
theorem d_Mo_deliver_34 : decode M_Mo_deliver.2.1 34 = .ok (.iadd, 1) := by decide +kernel
theorem d_Mo_deliver_35 : decode M_Mo_deliver.2.1 35 = .ok (.iastore, 1) := by decide +kernel
theorem d_Mo_deliver_36 : decode M_Mo_deliver.2.1 36 = .ok (.aload_n 0, 1) := by decide +kernel
theorem d_Mo_deliver_37 : decode M_Mo_deliver.2.1 37 = .ok (.getfield 43, 3) := by decide +kernel
theorem d_Mo_deliver_40 : decode M_Mo_deliver.2.1 40 = .ok (.iload_n 2, 1) := by decide +kernel
theorem d_Mo_deliver_41 : decode M_Mo_deliver.2.1 41 = .ok (.aload_n 0, 1) := by decide +kernel
theorem d_Mo_deliver_42 : decode M_Mo_deliver.2.1 42 = .ok (.getfield 28, 3) := by decide +kernel
theorem d_Mo_deliver_45 : decode M_Mo_deliver.2.1 45 = .ok (.iload_n 1, 1) := by decide +kernel
theorem d_Mo_deliver_46 : decode M_Mo_deliver.2.1 46 = .ok (.iaload, 1) := by decide +kernel
theorem d_Mo_deliver_47 : decode M_Mo_deliver.2.1 47 = .ok (.iastore, 1) := by decide +kernel
theorem d_Mo_deliver_48 : decode M_Mo_deliver.2.1 48 = .ok (.return_, 1) := by decide +kernel
theorem d_Mo_attempt_0 : decode M_Mo_attempt.2.1 0 = .ok (.iconst 0, 1) := by decide +kernel
theorem d_Mo_attempt_1 : decode M_Mo_attempt.2.1 1 = .ok (.istore_n 2, 1) := by decide +kernel
theorem d_Mo_attempt_2 : decode M_Mo_attempt.2.1 2 = .ok (.iconst 0, 1) := by decide +kernel
theorem d_Mo_attempt_3 : decode M_Mo_attempt.2.1 3 = .ok (.istore_n 3, 1) := by decide +kernel
theorem d_Mo_attempt_4 : decode M_Mo_attempt.2.1 4 = .ok (.iload_n 3, 1) := by decide +kernel
theorem d_Mo_attempt_5 : decode M_Mo_attempt.2.1 5 = .ok (.aload_n 0, 1) := by decide +kernel
theorem d_Mo_attempt_6 : decode M_Mo_attempt.2.1 6 = .ok (.getfield 28, 3) := by decide +kernel
theorem d_Mo_attempt_9 : decode M_Mo_attempt.2.1 9 = .ok (.iload_n 1, 1) := by decide +kernel
theorem d_Mo_attempt_10 : decode M_Mo_attempt.2.1 10 = .ok (.iconst 3, 1) := by decide +kernel
theorem d_Mo_attempt_11 : decode M_Mo_attempt.2.1 11 = .ok (.iadd, 1) := by decide +kernel
theorem d_Mo_attempt_12 : decode M_Mo_attempt.2.1 12 = .ok (.iaload, 1) := by decide +kernel
theorem d_Mo_attempt_13 : decode M_Mo_attempt.2.1 13 = .ok (.if_icmp .ge 132, 3) := by decide +kernel
theorem d_Mo_attempt_16 : decode M_Mo_attempt.2.1 16 = .ok (.aload_n 0, 1) := by decide +kernel
theorem d_Mo_attempt_17 : decode M_Mo_attempt.2.1 17 = .ok (.getfield 28, 3) := by decide +kernel
theorem d_Mo_attempt_20 : decode M_Mo_attempt.2.1 20 = .ok (.iload_n 1, 1) := by decide +kernel
theorem d_Mo_attempt_21 : decode M_Mo_attempt.2.1 21 = .ok (.bipush 8, 2) := by decide +kernel
theorem d_Mo_attempt_23 : decode M_Mo_attempt.2.1 23 = .ok (.iadd, 1) := by decide +kernel
theorem d_Mo_attempt_24 : decode M_Mo_attempt.2.1 24 = .ok (.iload_n 3, 1) := by decide +kernel
theorem d_Mo_attempt_25 : decode M_Mo_attempt.2.1 25 = .ok (.iadd, 1) := by decide +kernel
theorem d_Mo_attempt_26 : decode M_Mo_attempt.2.1 26 = .ok (.iaload, 1) := by decide +kernel
theorem d_Mo_attempt_27 : decode M_Mo_attempt.2.1 27 = .ok (.iconst 1, 1) := by decide +kernel
theorem d_Mo_attempt_28 : decode M_Mo_attempt.2.1 28 = .ok (.if_icmp .eq 6, 3) := by decide +kernel
theorem d_Mo_attempt_31 : decode M_Mo_attempt.2.1 31 = .ok (.goto 108, 3) := by decide +kernel
theorem d_Mo_attempt_34 : decode M_Mo_attempt.2.1 34 = .ok (.aload_n 0, 1) := by decide +kernel
theorem d_Mo_attempt_35 : decode M_Mo_attempt.2.1 35 = .ok (.getfield 28, 3) := by decide +kernel
theorem d_Mo_attempt_38 : decode M_Mo_attempt.2.1 38 = .ok (.iload_n 1, 1) := by decide +kernel
theorem d_Mo_attempt_39 : decode M_Mo_attempt.2.1 39 = .ok (.iconst 4, 1) := by decide +kernel
theorem d_Mo_attempt_40 : decode M_Mo_attempt.2.1 40 = .ok (.iadd, 1) := by decide +kernel
theorem d_Mo_attempt_41 : decode M_Mo_attempt.2.1 41 = .ok (.iload_n 3, 1) := by decide +kernel
theorem d_Mo_attempt_42 : decode M_Mo_attempt.2.1 42 = .ok (.iadd, 1) := by decide +kernel
theorem d_Mo_attempt_43 : decode M_Mo_attempt.2.1 43 = .ok (.iaload, 1) := by decide +kernel
theorem d_Mo_attempt_44 : decode M_Mo_attempt.2.1 44 = .ok (.istore 4, 2) := by decide +kernel
theorem d_Mo_attempt_46 : decode M_Mo_attempt.2.1 46 = .ok (.iload 4, 2) := by decide +kernel
theorem d_Mo_attempt_48 : decode M_Mo_attempt.2.1 48 = .ok (.bipush 8, 2) := by decide +kernel
theorem d_Mo_attempt_50 : decode M_Mo_attempt.2.1 50 = .ok (.if_icmp .ge 8, 3) := by decide +kernel
theorem d_Mo_attempt_53 : decode M_Mo_attempt.2.1 53 = .ok (.bipush 10, 2) := by decide +kernel
theorem d_Mo_attempt_55 : decode M_Mo_attempt.2.1 55 = .ok (.goto 12, 3) := by decide +kernel
theorem d_Mo_attempt_58 : decode M_Mo_attempt.2.1 58 = .ok (.aload_n 0, 1) := by decide +kernel
theorem d_Mo_attempt_59 : decode M_Mo_attempt.2.1 59 = .ok (.iload 4, 2) := by decide +kernel
theorem d_Mo_attempt_61 : decode M_Mo_attempt.2.1 61 = .ok (.bipush 8, 2) := by decide +kernel
theorem d_Mo_attempt_63 : decode M_Mo_attempt.2.1 63 = .ok (.idiv, 1) := by decide +kernel
theorem d_Mo_attempt_64 : decode M_Mo_attempt.2.1 64 = .ok (.invokevirtual 107, 3) := by decide +kernel
theorem d_Mo_attempt_67 : decode M_Mo_attempt.2.1 67 = .ok (.istore 5, 2) := by decide +kernel
theorem d_Mo_attempt_69 : decode M_Mo_attempt.2.1 69 = .ok (.iload 5, 2) := by decide +kernel
theorem d_Mo_attempt_71 : decode M_Mo_attempt.2.1 71 = .ok (.bipush 9, 2) := by decide +kernel
theorem d_Mo_attempt_73 : decode M_Mo_attempt.2.1 73 = .ok (.if_icmp .ne 6, 3) := by decide +kernel
theorem d_Mo_attempt_76 : decode M_Mo_attempt.2.1 76 = .ok (.goto 63, 3) := by decide +kernel
theorem d_Mo_attempt_79 : decode M_Mo_attempt.2.1 79 = .ok (.aload_n 0, 1) := by decide +kernel
theorem d_Mo_attempt_80 : decode M_Mo_attempt.2.1 80 = .ok (.iload_n 1, 1) := by decide +kernel
theorem d_Mo_attempt_81 : decode M_Mo_attempt.2.1 81 = .ok (.bipush 8, 2) := by decide +kernel
theorem d_Mo_attempt_83 : decode M_Mo_attempt.2.1 83 = .ok (.iadd, 1) := by decide +kernel
theorem d_Mo_attempt_84 : decode M_Mo_attempt.2.1 84 = .ok (.iload_n 3, 1) := by decide +kernel
theorem d_Mo_attempt_85 : decode M_Mo_attempt.2.1 85 = .ok (.iadd, 1) := by decide +kernel
theorem d_Mo_attempt_86 : decode M_Mo_attempt.2.1 86 = .ok (.iload 5, 2) := by decide +kernel
theorem d_Mo_attempt_88 : decode M_Mo_attempt.2.1 88 = .ok (.bipush 8, 2) := by decide +kernel
theorem d_Mo_attempt_90 : decode M_Mo_attempt.2.1 90 = .ok (.if_icmp .ne 7, 3) := by decide +kernel
theorem d_Mo_attempt_93 : decode M_Mo_attempt.2.1 93 = .ok (.iconst 3, 1) := by decide +kernel
theorem d_Mo_attempt_94 : decode M_Mo_attempt.2.1 94 = .ok (.goto 4, 3) := by decide +kernel
theorem d_Mo_attempt_97 : decode M_Mo_attempt.2.1 97 = .ok (.iconst 2, 1) := by decide +kernel
theorem d_Mo_attempt_98 : decode M_Mo_attempt.2.1 98 = .ok (.invokevirtual 111, 3) := by decide +kernel
theorem d_Mo_attempt_101 : decode M_Mo_attempt.2.1 101 = .ok (.iload 5, 2) := by decide +kernel
theorem d_Mo_attempt_103 : decode M_Mo_attempt.2.1 103 = .ok (.bipush 8, 2) := by decide +kernel
theorem d_Mo_attempt_105 : decode M_Mo_attempt.2.1 105 = .ok (.if_icmp .ne 6, 3) := by decide +kernel
theorem d_Mo_attempt_108 : decode M_Mo_attempt.2.1 108 = .ok (.goto 31, 3) := by decide +kernel
theorem d_Mo_attempt_111 : decode M_Mo_attempt.2.1 111 = .ok (.aload_n 0, 1) := by decide +kernel
theorem d_Mo_attempt_112 : decode M_Mo_attempt.2.1 112 = .ok (.iload_n 1, 1) := by decide +kernel
theorem d_Mo_attempt_113 : decode M_Mo_attempt.2.1 113 = .ok (.iload 4, 2) := by decide +kernel
theorem d_Mo_attempt_115 : decode M_Mo_attempt.2.1 115 = .ok (.invokevirtual 115, 3) := by decide +kernel
theorem d_Mo_attempt_118 : decode M_Mo_attempt.2.1 118 = .ok (.iload 5, 2) := by decide +kernel
theorem d_Mo_attempt_120 : decode M_Mo_attempt.2.1 120 = .ok (.bipush 8, 2) := by decide +kernel
theorem d_Mo_attempt_122 : decode M_Mo_attempt.2.1 122 = .ok (.if_icmp .ge 14, 3) := by decide +kernel
theorem d_Mo_attempt_125 : decode M_Mo_attempt.2.1 125 = .ok (.aload_n 0, 1) := by decide +kernel
theorem d_Mo_attempt_126 : decode M_Mo_attempt.2.1 126 = .ok (.getfield 46, 3) := by decide +kernel
theorem d_Mo_attempt_129 : decode M_Mo_attempt.2.1 129 = .ok (.iload 5, 2) := by decide +kernel
theorem d_Mo_attempt_131 : decode M_Mo_attempt.2.1 131 = .ok (.dup2, 1) := by decide +kernel
theorem d_Mo_attempt_132 : decode M_Mo_attempt.2.1 132 = .ok (.iaload, 1) := by decide +kernel
theorem d_Mo_attempt_133 : decode M_Mo_attempt.2.1 133 = .ok (.iconst 1, 1) := by decide +kernel
theorem d_Mo_attempt_134 : decode M_Mo_attempt.2.1 134 = .ok (.iadd, 1) := by decide +kernel
theorem d_Mo_attempt_135 : decode M_Mo_attempt.2.1 135 = .ok (.iastore, 1) := by decide +kernel
theorem d_Mo_attempt_136 : decode M_Mo_attempt.2.1 136 = .ok (.iinc 2 1, 3) := by decide +kernel
theorem d_Mo_attempt_139 : decode M_Mo_attempt.2.1 139 = .ok (.iinc 3 1, 3) := by decide +kernel
theorem d_Mo_attempt_142 : decode M_Mo_attempt.2.1 142 = .ok (.goto (-138), 3) := by decide +kernel
theorem d_Mo_attempt_145 : decode M_Mo_attempt.2.1 145 = .ok (.iconst 0, 1) := by decide +kernel
theorem d_Mo_attempt_146 : decode M_Mo_attempt.2.1 146 = .ok (.istore_n 3, 1) := by decide +kernel
theorem d_Mo_attempt_147 : decode M_Mo_attempt.2.1 147 = .ok (.iload_n 3, 1) := by decide +kernel
theorem d_Mo_attempt_148 : decode M_Mo_attempt.2.1 148 = .ok (.aload_n 0, 1) := by decide +kernel
theorem d_Mo_attempt_149 : decode M_Mo_attempt.2.1 149 = .ok (.getfield 28, 3) := by decide +kernel
theorem d_Mo_attempt_152 : decode M_Mo_attempt.2.1 152 = .ok (.iload_n 1, 1) := by decide +kernel
theorem d_Mo_attempt_153 : decode M_Mo_attempt.2.1 153 = .ok (.iconst 3, 1) := by decide +kernel
theorem d_Mo_attempt_154 : decode M_Mo_attempt.2.1 154 = .ok (.iadd, 1) := by decide +kernel
theorem d_Mo_attempt_155 : decode M_Mo_attempt.2.1 155 = .ok (.iaload, 1) := by decide +kernel
theorem d_Mo_attempt_156 : decode M_Mo_attempt.2.1 156 = .ok (.if_icmp .ge 56, 3) := by decide +kernel
theorem d_Mo_attempt_159 : decode M_Mo_attempt.2.1 159 = .ok (.aload_n 0, 1) := by decide +kernel
theorem d_Mo_attempt_160 : decode M_Mo_attempt.2.1 160 = .ok (.getfield 28, 3) := by decide +kernel
theorem d_Mo_attempt_163 : decode M_Mo_attempt.2.1 163 = .ok (.iload_n 1, 1) := by decide +kernel
theorem d_Mo_attempt_164 : decode M_Mo_attempt.2.1 164 = .ok (.bipush 8, 2) := by decide +kernel
theorem d_Mo_attempt_166 : decode M_Mo_attempt.2.1 166 = .ok (.iadd, 1) := by decide +kernel
theorem d_Mo_attempt_167 : decode M_Mo_attempt.2.1 167 = .ok (.iload_n 3, 1) := by decide +kernel
theorem d_Mo_attempt_168 : decode M_Mo_attempt.2.1 168 = .ok (.iadd, 1) := by decide +kernel
theorem d_Mo_attempt_169 : decode M_Mo_attempt.2.1 169 = .ok (.iaload, 1) := by decide +kernel
theorem d_Mo_attempt_170 : decode M_Mo_attempt.2.1 170 = .ok (.iconst 1, 1) := by decide +kernel
theorem d_Mo_attempt_171 : decode M_Mo_attempt.2.1 171 = .ok (.if_icmp .ne 35, 3) := by decide +kernel
theorem d_Mo_attempt_174 : decode M_Mo_attempt.2.1 174 = .ok (.aload_n 0, 1) := by decide +kernel
theorem d_Mo_attempt_175 : decode M_Mo_attempt.2.1 175 = .ok (.getfield 101, 3) := by decide +kernel
theorem d_Mo_attempt_178 : decode M_Mo_attempt.2.1 178 = .ok (.aload_n 0, 1) := by decide +kernel
theorem d_Mo_attempt_179 : decode M_Mo_attempt.2.1 179 = .ok (.getfield 28, 3) := by decide +kernel
theorem d_Mo_attempt_182 : decode M_Mo_attempt.2.1 182 = .ok (.iload_n 1, 1) := by decide +kernel
theorem d_Mo_attempt_183 : decode M_Mo_attempt.2.1 183 = .ok (.bipush 12, 2) := by decide +kernel
theorem d_Mo_attempt_185 : decode M_Mo_attempt.2.1 185 = .ok (.iadd, 1) := by decide +kernel
theorem d_Mo_attempt_186 : decode M_Mo_attempt.2.1 186 = .ok (.iaload, 1) := by decide +kernel
theorem d_Mo_attempt_187 : decode M_Mo_attempt.2.1 187 = .ok (.aload_n 0, 1) := by decide +kernel
theorem d_Mo_attempt_188 : decode M_Mo_attempt.2.1 188 = .ok (.getfield 60, 3) := by decide +kernel
theorem d_Mo_attempt_191 : decode M_Mo_attempt.2.1 191 = .ok (.iadd, 1) := by decide +kernel
theorem d_Mo_attempt_192 : decode M_Mo_attempt.2.1 192 = .ok (.if_icmp .lt 14, 3) := by decide +kernel
theorem d_Mo_attempt_195 : decode M_Mo_attempt.2.1 195 = .ok (.aload_n 0, 1) := by decide +kernel
theorem d_Mo_attempt_196 : decode M_Mo_attempt.2.1 196 = .ok (.iload_n 1, 1) := by decide +kernel
theorem d_Mo_attempt_197 : decode M_Mo_attempt.2.1 197 = .ok (.bipush 8, 2) := by decide +kernel
theorem d_Mo_attempt_199 : decode M_Mo_attempt.2.1 199 = .ok (.iadd, 1) := by decide +kernel
theorem d_Mo_attempt_200 : decode M_Mo_attempt.2.1 200 = .ok (.iload_n 3, 1) := by decide +kernel
theorem d_Mo_attempt_201 : decode M_Mo_attempt.2.1 201 = .ok (.iadd, 1) := by decide +kernel
theorem d_Mo_attempt_202 : decode M_Mo_attempt.2.1 202 = .ok (.iconst 3, 1) := by decide +kernel
theorem d_Mo_attempt_203 : decode M_Mo_attempt.2.1 203 = .ok (.invokevirtual 111, 3) := by decide +kernel
theorem d_Mo_attempt_206 : decode M_Mo_attempt.2.1 206 = .ok (.iinc 3 1, 3) := by decide +kernel
theorem d_Mo_attempt_209 : decode M_Mo_attempt.2.1 209 = .ok (.goto (-62), 3) := by decide +kernel
theorem d_Mo_attempt_212 : decode M_Mo_attempt.2.1 212 = .ok (.aload_n 0, 1) := by decide +kernel
theorem d_Mo_attempt_213 : decode M_Mo_attempt.2.1 213 = .ok (.dup, 1) := by decide +kernel
theorem d_Mo_attempt_214 : decode M_Mo_attempt.2.1 214 = .ok (.getfield 88, 3) := by decide +kernel
theorem d_Mo_attempt_217 : decode M_Mo_attempt.2.1 217 = .ok (.iconst 1, 1) := by decide +kernel
theorem d_Mo_attempt_218 : decode M_Mo_attempt.2.1 218 = .ok (.iadd, 1) := by decide +kernel
theorem d_Mo_attempt_219 : decode M_Mo_attempt.2.1 219 = .ok (.putfield 88, 3) := by decide +kernel
theorem d_Mo_attempt_222 : decode M_Mo_attempt.2.1 222 = .ok (.aload_n 0, 1) := by decide +kernel
theorem d_Mo_attempt_223 : decode M_Mo_attempt.2.1 223 = .ok (.iload_n 1, 1) := by decide +kernel
theorem d_Mo_attempt_224 : decode M_Mo_attempt.2.1 224 = .ok (.iconst 1, 1) := by decide +kernel
theorem d_Mo_attempt_225 : decode M_Mo_attempt.2.1 225 = .ok (.invokevirtual 118, 3) := by decide +kernel
theorem d_Mo_attempt_228 : decode M_Mo_attempt.2.1 228 = .ok (.ifCond .le 60, 3) := by decide +kernel
theorem d_Mo_attempt_231 : decode M_Mo_attempt.2.1 231 = .ok (.aload_n 0, 1) := by decide +kernel
theorem d_Mo_attempt_232 : decode M_Mo_attempt.2.1 232 = .ok (.getfield 28, 3) := by decide +kernel
theorem d_Mo_attempt_235 : decode M_Mo_attempt.2.1 235 = .ok (.iload_n 1, 1) := by decide +kernel
theorem d_Mo_attempt_236 : decode M_Mo_attempt.2.1 236 = .ok (.bipush 13, 2) := by decide +kernel
theorem d_Mo_attempt_238 : decode M_Mo_attempt.2.1 238 = .ok (.iadd, 1) := by decide +kernel
theorem d_Mo_attempt_239 : decode M_Mo_attempt.2.1 239 = .ok (.aload_n 0, 1) := by decide +kernel
theorem d_Mo_attempt_240 : decode M_Mo_attempt.2.1 240 = .ok (.getfield 101, 3) := by decide +kernel
theorem d_Mo_attempt_243 : decode M_Mo_attempt.2.1 243 = .ok (.aload_n 0, 1) := by decide +kernel
theorem d_Mo_attempt_244 : decode M_Mo_attempt.2.1 244 = .ok (.getfield 28, 3) := by decide +kernel
theorem d_Mo_attempt_247 : decode M_Mo_attempt.2.1 247 = .ok (.iload_n 1, 1) := by decide +kernel
theorem d_Mo_attempt_248 : decode M_Mo_attempt.2.1 248 = .ok (.bipush 14, 2) := by decide +kernel
theorem d_Mo_attempt_250 : decode M_Mo_attempt.2.1 250 = .ok (.iadd, 1) := by decide +kernel
theorem d_Mo_attempt_251 : decode M_Mo_attempt.2.1 251 = .ok (.iaload, 1) := by decide +kernel
theorem d_Mo_attempt_252 : decode M_Mo_attempt.2.1 252 = .ok (.iadd, 1) := by decide +kernel
theorem d_Mo_attempt_253 : decode M_Mo_attempt.2.1 253 = .ok (.iastore, 1) := by decide +kernel
theorem d_Mo_attempt_254 : decode M_Mo_attempt.2.1 254 = .ok (.aload_n 0, 1) := by decide +kernel
theorem d_Mo_attempt_255 : decode M_Mo_attempt.2.1 255 = .ok (.getfield 28, 3) := by decide +kernel
theorem d_Mo_attempt_258 : decode M_Mo_attempt.2.1 258 = .ok (.iload_n 1, 1) := by decide +kernel
theorem d_Mo_attempt_259 : decode M_Mo_attempt.2.1 259 = .ok (.bipush 14, 2) := by decide +kernel
theorem d_Mo_attempt_261 : decode M_Mo_attempt.2.1 261 = .ok (.iadd, 1) := by decide +kernel
theorem d_Mo_attempt_262 : decode M_Mo_attempt.2.1 262 = .ok (.iconst 2, 1) := by decide +kernel
theorem d_Mo_attempt_263 : decode M_Mo_attempt.2.1 263 = .ok (.aload_n 0, 1) := by decide +kernel
theorem d_Mo_attempt_264 : decode M_Mo_attempt.2.1 264 = .ok (.getfield 28, 3) := by decide +kernel
theorem d_Mo_attempt_267 : decode M_Mo_attempt.2.1 267 = .ok (.iload_n 1, 1) := by decide +kernel
theorem d_Mo_attempt_268 : decode M_Mo_attempt.2.1 268 = .ok (.bipush 14, 2) := by decide +kernel
theorem d_Mo_attempt_270 : decode M_Mo_attempt.2.1 270 = .ok (.iadd, 1) := by decide +kernel
theorem d_Mo_attempt_271 : decode M_Mo_attempt.2.1 271 = .ok (.iaload, 1) := by decide +kernel
theorem d_Mo_attempt_272 : decode M_Mo_attempt.2.1 272 = .ok (.imul, 1) := by decide +kernel
theorem d_Mo_attempt_273 : decode M_Mo_attempt.2.1 273 = .ok (.aload_n 0, 1) := by decide +kernel
theorem d_Mo_attempt_274 : decode M_Mo_attempt.2.1 274 = .ok (.getfield 53, 3) := by decide +kernel
theorem d_Mo_attempt_277 : decode M_Mo_attempt.2.1 277 = .ok (.aload_n 0, 1) := by decide +kernel
theorem d_Mo_attempt_278 : decode M_Mo_attempt.2.1 278 = .ok (.getfield 57, 3) := by decide +kernel
theorem d_Mo_attempt_281 : decode M_Mo_attempt.2.1 281 = .ok (.invokestatic 49, 3) := by decide +kernel
theorem d_Mo_attempt_284 : decode M_Mo_attempt.2.1 284 = .ok (.iastore, 1) := by decide +kernel
theorem d_Mo_attempt_285 : decode M_Mo_attempt.2.1 285 = .ok (.goto 134, 3) := by decide +kernel
theorem d_Mo_attempt_288 : decode M_Mo_attempt.2.1 288 = .ok (.aload_n 0, 1) := by decide +kernel
theorem d_Mo_attempt_289 : decode M_Mo_attempt.2.1 289 = .ok (.iload_n 1, 1) := by decide +kernel
theorem d_Mo_attempt_290 : decode M_Mo_attempt.2.1 290 = .ok (.iconst 3, 1) := by decide +kernel
theorem d_Mo_attempt_291 : decode M_Mo_attempt.2.1 291 = .ok (.invokevirtual 118, 3) := by decide +kernel
theorem d_Mo_attempt_294 : decode M_Mo_attempt.2.1 294 = .ok (.ifCond .le 120, 3) := by decide +kernel
theorem d_Mo_attempt_297 : decode M_Mo_attempt.2.1 297 = .ok (.aload_n 0, 1) := by decide +kernel
theorem d_Mo_attempt_298 : decode M_Mo_attempt.2.1 298 = .ok (.getfield 28, 3) := by decide +kernel
theorem d_Mo_attempt_301 : decode M_Mo_attempt.2.1 301 = .ok (.iload_n 1, 1) := by decide +kernel
theorem d_Mo_attempt_302 : decode M_Mo_attempt.2.1 302 = .ok (.iconst 1, 1) := by decide +kernel
theorem d_Mo_attempt_303 : decode M_Mo_attempt.2.1 303 = .ok (.iadd, 1) := by decide +kernel
theorem d_Mo_attempt_304 : decode M_Mo_attempt.2.1 304 = .ok (.iaload, 1) := by decide +kernel
theorem d_Mo_attempt_305 : decode M_Mo_attempt.2.1 305 = .ok (.iconst (-1), 1) := by decide +kernel
theorem d_Mo_attempt_306 : decode M_Mo_attempt.2.1 306 = .ok (.if_icmp .eq 108, 3) := by decide +kernel
theorem d_Mo_attempt_309 : decode M_Mo_attempt.2.1 309 = .ok (.aload_n 0, 1) := by decide +kernel
theorem d_Mo_attempt_310 : decode M_Mo_attempt.2.1 310 = .ok (.getfield 28, 3) := by decide +kernel
theorem d_Mo_attempt_313 : decode M_Mo_attempt.2.1 313 = .ok (.iload_n 1, 1) := by decide +kernel
theorem d_Mo_attempt_314 : decode M_Mo_attempt.2.1 314 = .ok (.iconst 4, 1) := by decide +kernel
theorem d_Mo_attempt_315 : decode M_Mo_attempt.2.1 315 = .ok (.iadd, 1) := by decide +kernel
theorem d_Mo_attempt_316 : decode M_Mo_attempt.2.1 316 = .ok (.aload_n 0, 1) := by decide +kernel
theorem d_Mo_attempt_317 : decode M_Mo_attempt.2.1 317 = .ok (.getfield 28, 3) := by decide +kernel
theorem d_Mo_attempt_320 : decode M_Mo_attempt.2.1 320 = .ok (.iload_n 1, 1) := by decide +kernel
theorem d_Mo_attempt_321 : decode M_Mo_attempt.2.1 321 = .ok (.iconst 1, 1) := by decide +kernel
theorem d_Mo_attempt_322 : decode M_Mo_attempt.2.1 322 = .ok (.iadd, 1) := by decide +kernel
theorem d_Mo_attempt_323 : decode M_Mo_attempt.2.1 323 = .ok (.iaload, 1) := by decide +kernel
theorem d_Mo_attempt_324 : decode M_Mo_attempt.2.1 324 = .ok (.iastore, 1) := by decide +kernel
theorem d_Mo_attempt_325 : decode M_Mo_attempt.2.1 325 = .ok (.aload_n 0, 1) := by decide +kernel
theorem d_Mo_attempt_326 : decode M_Mo_attempt.2.1 326 = .ok (.getfield 28, 3) := by decide +kernel
theorem d_Mo_attempt_329 : decode M_Mo_attempt.2.1 329 = .ok (.iload_n 1, 1) := by decide +kernel
theorem d_Mo_attempt_330 : decode M_Mo_attempt.2.1 330 = .ok (.bipush 8, 2) := by decide +kernel
theorem d_Mo_attempt_332 : decode M_Mo_attempt.2.1 332 = .ok (.iadd, 1) := by decide +kernel
theorem d_Mo_attempt_333 : decode M_Mo_attempt.2.1 333 = .ok (.iconst 1, 1) := by decide +kernel
theorem d_Mo_attempt_334 : decode M_Mo_attempt.2.1 334 = .ok (.iastore, 1) := by decide +kernel
theorem d_Mo_attempt_335 : decode M_Mo_attempt.2.1 335 = .ok (.aload_n 0, 1) := by decide +kernel
theorem d_Mo_attempt_336 : decode M_Mo_attempt.2.1 336 = .ok (.getfield 28, 3) := by decide +kernel
theorem d_Mo_attempt_339 : decode M_Mo_attempt.2.1 339 = .ok (.iload_n 1, 1) := by decide +kernel
theorem d_Mo_attempt_340 : decode M_Mo_attempt.2.1 340 = .ok (.iconst 1, 1) := by decide +kernel
theorem d_Mo_attempt_341 : decode M_Mo_attempt.2.1 341 = .ok (.iadd, 1) := by decide +kernel
theorem d_Mo_attempt_342 : decode M_Mo_attempt.2.1 342 = .ok (.iconst (-1), 1) := by decide +kernel
theorem d_Mo_attempt_343 : decode M_Mo_attempt.2.1 343 = .ok (.iastore, 1) := by decide +kernel
theorem d_Mo_attempt_344 : decode M_Mo_attempt.2.1 344 = .ok (.aload_n 0, 1) := by decide +kernel
theorem d_Mo_attempt_345 : decode M_Mo_attempt.2.1 345 = .ok (.getfield 28, 3) := by decide +kernel
theorem d_Mo_attempt_348 : decode M_Mo_attempt.2.1 348 = .ok (.iload_n 1, 1) := by decide +kernel
theorem d_Mo_attempt_349 : decode M_Mo_attempt.2.1 349 = .ok (.iconst 2, 1) := by decide +kernel
theorem d_Mo_attempt_350 : decode M_Mo_attempt.2.1 350 = .ok (.iadd, 1) := by decide +kernel
theorem d_Mo_attempt_351 : decode M_Mo_attempt.2.1 351 = .ok (.iconst 0, 1) := by decide +kernel
theorem d_Mo_attempt_352 : decode M_Mo_attempt.2.1 352 = .ok (.iastore, 1) := by decide +kernel
theorem d_Mo_attempt_353 : decode M_Mo_attempt.2.1 353 = .ok (.aload_n 0, 1) := by decide +kernel
theorem d_Mo_attempt_354 : decode M_Mo_attempt.2.1 354 = .ok (.getfield 28, 3) := by decide +kernel
theorem d_Mo_attempt_357 : decode M_Mo_attempt.2.1 357 = .ok (.iload_n 1, 1) := by decide +kernel
theorem d_Mo_attempt_358 : decode M_Mo_attempt.2.1 358 = .ok (.iconst 3, 1) := by decide +kernel
theorem d_Mo_attempt_359 : decode M_Mo_attempt.2.1 359 = .ok (.iadd, 1) := by decide +kernel
theorem d_Mo_attempt_360 : decode M_Mo_attempt.2.1 360 = .ok (.iconst 1, 1) := by decide +kernel
theorem d_Mo_attempt_361 : decode M_Mo_attempt.2.1 361 = .ok (.iastore, 1) := by decide +kernel
theorem d_Mo_attempt_362 : decode M_Mo_attempt.2.1 362 = .ok (.aload_n 0, 1) := by decide +kernel
theorem d_Mo_attempt_363 : decode M_Mo_attempt.2.1 363 = .ok (.getfield 28, 3) := by decide +kernel
theorem d_Mo_attempt_366 : decode M_Mo_attempt.2.1 366 = .ok (.iload_n 1, 1) := by decide +kernel
theorem d_Mo_attempt_367 : decode M_Mo_attempt.2.1 367 = .ok (.bipush 12, 2) := by decide +kernel
theorem d_Mo_attempt_369 : decode M_Mo_attempt.2.1 369 = .ok (.iadd, 1) := by decide +kernel
theorem d_Mo_attempt_370 : decode M_Mo_attempt.2.1 370 = .ok (.aload_n 0, 1) := by decide +kernel
theorem d_Mo_attempt_371 : decode M_Mo_attempt.2.1 371 = .ok (.getfield 101, 3) := by decide +kernel
theorem d_Mo_attempt_374 : decode M_Mo_attempt.2.1 374 = .ok (.iastore, 1) := by decide +kernel
theorem d_Mo_attempt_375 : decode M_Mo_attempt.2.1 375 = .ok (.aload_n 0, 1) := by decide +kernel
theorem d_Mo_attempt_376 : decode M_Mo_attempt.2.1 376 = .ok (.getfield 28, 3) := by decide +kernel
theorem d_Mo_attempt_379 : decode M_Mo_attempt.2.1 379 = .ok (.iload_n 1, 1) := by decide +kernel
theorem d_Mo_attempt_380 : decode M_Mo_attempt.2.1 380 = .ok (.bipush 13, 2) := by decide +kernel
theorem d_Mo_attempt_382 : decode M_Mo_attempt.2.1 382 = .ok (.iadd, 1) := by decide +kernel
theorem d_Mo_attempt_383 : decode M_Mo_attempt.2.1 383 = .ok (.aload_n 0, 1) := by decide +kernel
theorem d_Mo_attempt_384 : decode M_Mo_attempt.2.1 384 = .ok (.getfield 101, 3) := by decide +kernel
theorem d_Mo_attempt_387 : decode M_Mo_attempt.2.1 387 = .ok (.iastore, 1) := by decide +kernel
theorem d_Mo_attempt_388 : decode M_Mo_attempt.2.1 388 = .ok (.aload_n 0, 1) := by decide +kernel
theorem d_Mo_attempt_389 : decode M_Mo_attempt.2.1 389 = .ok (.getfield 28, 3) := by decide +kernel
theorem d_Mo_attempt_392 : decode M_Mo_attempt.2.1 392 = .ok (.iload_n 1, 1) := by decide +kernel
theorem d_Mo_attempt_393 : decode M_Mo_attempt.2.1 393 = .ok (.bipush 14, 2) := by decide +kernel
theorem d_Mo_attempt_395 : decode M_Mo_attempt.2.1 395 = .ok (.iadd, 1) := by decide +kernel
theorem d_Mo_attempt_396 : decode M_Mo_attempt.2.1 396 = .ok (.aload_n 0, 1) := by decide +kernel
theorem d_Mo_attempt_397 : decode M_Mo_attempt.2.1 397 = .ok (.getfield 53, 3) := by decide +kernel
theorem d_Mo_attempt_400 : decode M_Mo_attempt.2.1 400 = .ok (.iastore, 1) := by decide +kernel
theorem d_Mo_attempt_401 : decode M_Mo_attempt.2.1 401 = .ok (.aload_n 0, 1) := by decide +kernel
theorem d_Mo_attempt_402 : decode M_Mo_attempt.2.1 402 = .ok (.getfield 28, 3) := by decide +kernel
theorem d_Mo_attempt_405 : decode M_Mo_attempt.2.1 405 = .ok (.iload_n 1, 1) := by decide +kernel
theorem d_Mo_attempt_406 : decode M_Mo_attempt.2.1 406 = .ok (.bipush 15, 2) := by decide +kernel
theorem d_Mo_attempt_408 : decode M_Mo_attempt.2.1 408 = .ok (.iadd, 1) := by decide +kernel
theorem d_Mo_attempt_409 : decode M_Mo_attempt.2.1 409 = .ok (.iconst 1, 1) := by decide +kernel
theorem d_Mo_attempt_410 : decode M_Mo_attempt.2.1 410 = .ok (.iastore, 1) := by decide +kernel
theorem d_Mo_attempt_411 : decode M_Mo_attempt.2.1 411 = .ok (.goto 8, 3) := by decide +kernel
theorem d_Mo_attempt_414 : decode M_Mo_attempt.2.1 414 = .ok (.aload_n 0, 1) := by decide +kernel
theorem d_Mo_attempt_415 : decode M_Mo_attempt.2.1 415 = .ok (.iload_n 1, 1) := by decide +kernel
theorem d_Mo_attempt_416 : decode M_Mo_attempt.2.1 416 = .ok (.invokevirtual 122, 3) := by decide +kernel
theorem d_Mo_attempt_419 : decode M_Mo_attempt.2.1 419 = .ok (.iload_n 2, 1) := by decide +kernel
theorem d_Mo_attempt_420 : decode M_Mo_attempt.2.1 420 = .ok (.ireturn, 1) := by decide +kernel
theorem d_Mo_remove_0 : decode M_Mo_remove.2.1 0 = .ok (.iload_n 1, 1) := by decide +kernel
theorem d_Mo_remove_1 : decode M_Mo_remove.2.1 1 = .ok (.istore_n 2, 1) := by decide +kernel
theorem d_Mo_remove_2 : decode M_Mo_remove.2.1 2 = .ok (.iload_n 2, 1) := by decide +kernel
theorem d_Mo_remove_3 : decode M_Mo_remove.2.1 3 = .ok (.bipush 80, 2) := by decide +kernel
theorem d_Mo_remove_5 : decode M_Mo_remove.2.1 5 = .ok (.if_icmp .ge 24, 3) := by decide +kernel
theorem d_Mo_remove_8 : decode M_Mo_remove.2.1 8 = .ok (.aload_n 0, 1) := by decide +kernel
theorem d_Mo_remove_9 : decode M_Mo_remove.2.1 9 = .ok (.getfield 28, 3) := by decide +kernel
theorem d_Mo_remove_12 : decode M_Mo_remove.2.1 12 = .ok (.iload_n 2, 1) := by decide +kernel
theorem d_Mo_remove_13 : decode M_Mo_remove.2.1 13 = .ok (.aload_n 0, 1) := by decide +kernel
theorem d_Mo_remove_14 : decode M_Mo_remove.2.1 14 = .ok (.getfield 28, 3) := by decide +kernel
theorem d_Mo_remove_17 : decode M_Mo_remove.2.1 17 = .ok (.iload_n 2, 1) := by decide +kernel
theorem d_Mo_remove_18 : decode M_Mo_remove.2.1 18 = .ok (.bipush 16, 2) := by decide +kernel
theorem d_Mo_remove_20 : decode M_Mo_remove.2.1 20 = .ok (.iadd, 1) := by decide +kernel
theorem d_Mo_remove_21 : decode M_Mo_remove.2.1 21 = .ok (.iaload, 1) := by decide +kernel
theorem d_Mo_remove_22 : decode M_Mo_remove.2.1 22 = .ok (.iastore, 1) := by decide +kernel
theorem d_Mo_remove_23 : decode M_Mo_remove.2.1 23 = .ok (.iinc 2 1, 3) := by decide +kernel
theorem d_Mo_remove_26 : decode M_Mo_remove.2.1 26 = .ok (.goto (-24), 3) := by decide +kernel
theorem d_Mo_remove_29 : decode M_Mo_remove.2.1 29 = .ok (.aload_n 0, 1) := by decide +kernel
theorem d_Mo_remove_30 : decode M_Mo_remove.2.1 30 = .ok (.dup, 1) := by decide +kernel
theorem d_Mo_remove_31 : decode M_Mo_remove.2.1 31 = .ok (.getfield 85, 3) := by decide +kernel
theorem d_Mo_remove_34 : decode M_Mo_remove.2.1 34 = .ok (.iconst 1, 1) := by decide +kernel
theorem d_Mo_remove_35 : decode M_Mo_remove.2.1 35 = .ok (.isub, 1) := by decide +kernel
theorem d_Mo_remove_36 : decode M_Mo_remove.2.1 36 = .ok (.putfield 85, 3) := by decide +kernel
theorem d_Mo_remove_39 : decode M_Mo_remove.2.1 39 = .ok (.return_, 1) := by decide +kernel
theorem d_Mo_close_0 : decode M_Mo_close.2.1 0 = .ok (.aload_n 0, 1) := by decide +kernel
theorem d_Mo_close_1 : decode M_Mo_close.2.1 1 = .ok (.getfield 88, 3) := by decide +kernel
theorem d_Mo_close_4 : decode M_Mo_close.2.1 4 = .ok (.bipush 24, 2) := by decide +kernel
theorem d_Mo_close_6 : decode M_Mo_close.2.1 6 = .ok (.if_icmp .lt 8, 3) := by decide +kernel
theorem d_Mo_close_9 : decode M_Mo_close.2.1 9 = .ok (.aload_n 0, 1) := by decide +kernel
theorem d_Mo_close_10 : decode M_Mo_close.2.1 10 = .ok (.invokevirtual 104, 3) := by decide +kernel
theorem d_Mo_close_13 : decode M_Mo_close.2.1 13 = .ok (.pop, 1) := by decide +kernel
theorem d_Mo_close_14 : decode M_Mo_close.2.1 14 = .ok (.return_, 1) := by decide +kernel
theorem d_Mo_tick_0 : decode M_Mo_tick.2.1 0 = .ok (.iload_n 1, 1) := by decide +kernel
theorem d_Mo_tick_1 : decode M_Mo_tick.2.1 1 = .ok (.aload_n 0, 1) := by decide +kernel
theorem d_Mo_tick_2 : decode M_Mo_tick.2.1 2 = .ok (.getfield 101, 3) := by decide +kernel
theorem d_Mo_tick_5 : decode M_Mo_tick.2.1 5 = .ok (.if_icmp .lt 9, 3) := by decide +kernel
theorem d_Mo_tick_8 : decode M_Mo_tick.2.1 8 = .ok (.iload_n 1, 1) := by decide +kernel
theorem d_Mo_tick_9 : decode M_Mo_tick.2.1 9 = .ok (.ldc 126, 2) := by decide +kernel
theorem d_Mo_tick_11 : decode M_Mo_tick.2.1 11 = .ok (.if_icmp .le 7, 3) := by decide +kernel
theorem d_Mo_tick_14 : decode M_Mo_tick.2.1 14 = .ok (.sipush (-501), 3) := by decide +kernel
theorem d_Mo_tick_17 : decode M_Mo_tick.2.1 17 = .ok (.ireturn, 1) := by decide +kernel
theorem d_Mo_tick_18 : decode M_Mo_tick.2.1 18 = .ok (.aload_n 0, 1) := by decide +kernel
theorem d_Mo_tick_19 : decode M_Mo_tick.2.1 19 = .ok (.iload_n 1, 1) := by decide +kernel
theorem d_Mo_tick_20 : decode M_Mo_tick.2.1 20 = .ok (.putfield 101, 3) := by decide +kernel
theorem d_Mo_tick_23 : decode M_Mo_tick.2.1 23 = .ok (.iconst 0, 1) := by decide +kernel
theorem d_Mo_tick_24 : decode M_Mo_tick.2.1 24 = .ok (.istore_n 2, 1) := by decide +kernel
theorem d_Mo_tick_25 : decode M_Mo_tick.2.1 25 = .ok (.iconst 1, 1) := by decide +kernel
theorem d_Mo_tick_26 : decode M_Mo_tick.2.1 26 = .ok (.istore_n 3, 1) := by decide +kernel
theorem d_Mo_tick_27 : decode M_Mo_tick.2.1 27 = .ok (.iload_n 3, 1) := by decide +kernel
theorem d_Mo_tick_28 : decode M_Mo_tick.2.1 28 = .ok (.aload_n 0, 1) := by decide +kernel
theorem d_Mo_tick_29 : decode M_Mo_tick.2.1 29 = .ok (.getfield 98, 3) := by decide +kernel
theorem d_Mo_tick_32 : decode M_Mo_tick.2.1 32 = .ok (.if_icmp .gt 47, 3) := by decide +kernel
theorem d_Mo_tick_35 : decode M_Mo_tick.2.1 35 = .ok (.aload_n 0, 1) := by decide +kernel
theorem d_Mo_tick_36 : decode M_Mo_tick.2.1 36 = .ok (.iload_n 3, 1) := by decide +kernel
theorem d_Mo_tick_37 : decode M_Mo_tick.2.1 37 = .ok (.invokevirtual 127, 3) := by decide +kernel
theorem d_Mo_tick_40 : decode M_Mo_tick.2.1 40 = .ok (.istore 4, 2) := by decide +kernel
theorem d_Mo_tick_42 : decode M_Mo_tick.2.1 42 = .ok (.iload 4, 2) := by decide +kernel
theorem d_Mo_tick_44 : decode M_Mo_tick.2.1 44 = .ok (.ifCond .lt 29, 3) := by decide +kernel
theorem d_Mo_tick_47 : decode M_Mo_tick.2.1 47 = .ok (.aload_n 0, 1) := by decide +kernel
theorem d_Mo_tick_48 : decode M_Mo_tick.2.1 48 = .ok (.getfield 28, 3) := by decide +kernel
theorem d_Mo_tick_51 : decode M_Mo_tick.2.1 51 = .ok (.iload 4, 2) := by decide +kernel
theorem d_Mo_tick_53 : decode M_Mo_tick.2.1 53 = .ok (.bipush 13, 2) := by decide +kernel
theorem d_Mo_tick_55 : decode M_Mo_tick.2.1 55 = .ok (.iadd, 1) := by decide +kernel
theorem d_Mo_tick_56 : decode M_Mo_tick.2.1 56 = .ok (.iaload, 1) := by decide +kernel
theorem d_Mo_tick_57 : decode M_Mo_tick.2.1 57 = .ok (.aload_n 0, 1) := by decide +kernel
theorem d_Mo_tick_58 : decode M_Mo_tick.2.1 58 = .ok (.getfield 101, 3) := by decide +kernel
theorem d_Mo_tick_61 : decode M_Mo_tick.2.1 61 = .ok (.if_icmp .gt 12, 3) := by decide +kernel
theorem d_Mo_tick_64 : decode M_Mo_tick.2.1 64 = .ok (.iload_n 2, 1) := by decide +kernel
theorem d_Mo_tick_65 : decode M_Mo_tick.2.1 65 = .ok (.aload_n 0, 1) := by decide +kernel
theorem d_Mo_tick_66 : decode M_Mo_tick.2.1 66 = .ok (.iload 4, 2) := by decide +kernel
theorem d_Mo_tick_68 : decode M_Mo_tick.2.1 68 = .ok (.invokevirtual 130, 3) := by decide +kernel
theorem d_Mo_tick_71 : decode M_Mo_tick.2.1 71 = .ok (.iadd, 1) := by decide +kernel
theorem d_Mo_tick_72 : decode M_Mo_tick.2.1 72 = .ok (.istore_n 2, 1) := by decide +kernel
theorem d_Mo_tick_73 : decode M_Mo_tick.2.1 73 = .ok (.iinc 3 1, 3) := by decide +kernel
theorem d_Mo_tick_76 : decode M_Mo_tick.2.1 76 = .ok (.goto (-49), 3) := by decide +kernel
theorem d_Mo_tick_79 : decode M_Mo_tick.2.1 79 = .ok (.aload_n 0, 1) := by decide +kernel
theorem d_Mo_tick_80 : decode M_Mo_tick.2.1 80 = .ok (.invokevirtual 133, 3) := by decide +kernel
theorem d_Mo_tick_83 : decode M_Mo_tick.2.1 83 = .ok (.iload_n 2, 1) := by decide +kernel
theorem d_Mo_tick_84 : decode M_Mo_tick.2.1 84 = .ok (.ireturn, 1) := by decide +kernel
theorem d_Mo_sync_0 : decode M_Mo_sync.2.1 0 = .ok (.aload_n 0, 1) := by decide +kernel
theorem d_Mo_sync_1 : decode M_Mo_sync.2.1 1 = .ok (.invokevirtual 104, 3) := by decide +kernel
theorem d_Mo_sync_4 : decode M_Mo_sync.2.1 4 = .ok (.ireturn, 1) := by decide +kernel
theorem d_Mo_crash_0 : decode M_Mo_crash.2.1 0 = .ok (.iconst 0, 1) := by decide +kernel
theorem d_Mo_crash_1 : decode M_Mo_crash.2.1 1 = .ok (.istore_n 1, 1) := by decide +kernel
theorem d_Mo_crash_2 : decode M_Mo_crash.2.1 2 = .ok (.iload_n 1, 1) := by decide +kernel
theorem d_Mo_crash_3 : decode M_Mo_crash.2.1 3 = .ok (.bipush 96, 2) := by decide +kernel
theorem d_Mo_crash_5 : decode M_Mo_crash.2.1 5 = .ok (.if_icmp .ge 21, 3) := by decide +kernel
theorem d_Mo_crash_8 : decode M_Mo_crash.2.1 8 = .ok (.aload_n 0, 1) := by decide +kernel
theorem d_Mo_crash_9 : decode M_Mo_crash.2.1 9 = .ok (.getfield 28, 3) := by decide +kernel
theorem d_Mo_crash_12 : decode M_Mo_crash.2.1 12 = .ok (.iload_n 1, 1) := by decide +kernel
theorem d_Mo_crash_13 : decode M_Mo_crash.2.1 13 = .ok (.aload_n 0, 1) := by decide +kernel
theorem d_Mo_crash_14 : decode M_Mo_crash.2.1 14 = .ok (.getfield 31, 3) := by decide +kernel
theorem d_Mo_crash_17 : decode M_Mo_crash.2.1 17 = .ok (.iload_n 1, 1) := by decide +kernel
theorem d_Mo_crash_18 : decode M_Mo_crash.2.1 18 = .ok (.iaload, 1) := by decide +kernel
theorem d_Mo_crash_19 : decode M_Mo_crash.2.1 19 = .ok (.iastore, 1) := by decide +kernel
theorem d_Mo_crash_20 : decode M_Mo_crash.2.1 20 = .ok (.iinc 1 1, 3) := by decide +kernel
theorem d_Mo_crash_23 : decode M_Mo_crash.2.1 23 = .ok (.goto (-21), 3) := by decide +kernel
theorem d_Mo_crash_26 : decode M_Mo_crash.2.1 26 = .ok (.aload_n 0, 1) := by decide +kernel
theorem d_Mo_crash_27 : decode M_Mo_crash.2.1 27 = .ok (.aload_n 0, 1) := by decide +kernel
theorem d_Mo_crash_28 : decode M_Mo_crash.2.1 28 = .ok (.getfield 91, 3) := by decide +kernel
theorem d_Mo_crash_31 : decode M_Mo_crash.2.1 31 = .ok (.putfield 85, 3) := by decide +kernel
theorem d_Mo_crash_34 : decode M_Mo_crash.2.1 34 = .ok (.aload_n 0, 1) := by decide +kernel
theorem d_Mo_crash_35 : decode M_Mo_crash.2.1 35 = .ok (.iconst 0, 1) := by decide +kernel
theorem d_Mo_crash_36 : decode M_Mo_crash.2.1 36 = .ok (.putfield 67, 3) := by decide +kernel
theorem d_Mo_crash_39 : decode M_Mo_crash.2.1 39 = .ok (.aload_n 0, 1) := by decide +kernel
theorem d_Mo_crash_40 : decode M_Mo_crash.2.1 40 = .ok (.getfield 88, 3) := by decide +kernel
theorem d_Mo_crash_43 : decode M_Mo_crash.2.1 43 = .ok (.istore_n 1, 1) := by decide +kernel
theorem d_Mo_crash_44 : decode M_Mo_crash.2.1 44 = .ok (.aload_n 0, 1) := by decide +kernel
theorem d_Mo_crash_45 : decode M_Mo_crash.2.1 45 = .ok (.iconst 0, 1) := by decide +kernel
theorem d_Mo_crash_46 : decode M_Mo_crash.2.1 46 = .ok (.putfield 88, 3) := by decide +kernel
theorem d_Mo_crash_49 : decode M_Mo_crash.2.1 49 = .ok (.iload_n 1, 1) := by decide +kernel
theorem d_Mo_crash_50 : decode M_Mo_crash.2.1 50 = .ok (.ireturn, 1) := by decide +kernel
theorem d_Mo_find_0 : decode M_Mo_find.2.1 0 = .ok (.iconst 0, 1) := by decide +kernel
theorem d_Mo_find_1 : decode M_Mo_find.2.1 1 = .ok (.istore_n 2, 1) := by decide +kernel
theorem d_Mo_find_2 : decode M_Mo_find.2.1 2 = .ok (.iload_n 2, 1) := by decide +kernel
theorem d_Mo_find_3 : decode M_Mo_find.2.1 3 = .ok (.aload_n 0, 1) := by decide +kernel
theorem d_Mo_find_4 : decode M_Mo_find.2.1 4 = .ok (.getfield 85, 3) := by decide +kernel
theorem d_Mo_find_7 : decode M_Mo_find.2.1 7 = .ok (.if_icmp .ge 27, 3) := by decide +kernel
theorem d_Mo_find_10 : decode M_Mo_find.2.1 10 = .ok (.aload_n 0, 1) := by decide +kernel
theorem d_Mo_find_11 : decode M_Mo_find.2.1 11 = .ok (.getfield 28, 3) := by decide +kernel
theorem d_Mo_find_14 : decode M_Mo_find.2.1 14 = .ok (.bipush 16, 2) := by decide +kernel
theorem d_Mo_find_16 : decode M_Mo_find.2.1 16 = .ok (.iload_n 2, 1) := by decide +kernel
theorem d_Mo_find_17 : decode M_Mo_find.2.1 17 = .ok (.imul, 1) := by decide +kernel
theorem d_Mo_find_18 : decode M_Mo_find.2.1 18 = .ok (.iaload, 1) := by decide +kernel
theorem d_Mo_find_19 : decode M_Mo_find.2.1 19 = .ok (.iload_n 1, 1) := by decide +kernel
theorem d_Mo_find_20 : decode M_Mo_find.2.1 20 = .ok (.if_icmp .ne 8, 3) := by decide +kernel
theorem d_Mo_find_23 : decode M_Mo_find.2.1 23 = .ok (.bipush 16, 2) := by decide +kernel
theorem d_Mo_find_25 : decode M_Mo_find.2.1 25 = .ok (.iload_n 2, 1) := by decide +kernel
theorem d_Mo_find_26 : decode M_Mo_find.2.1 26 = .ok (.imul, 1) := by decide +kernel
theorem d_Mo_find_27 : decode M_Mo_find.2.1 27 = .ok (.ireturn, 1) := by decide +kernel
theorem d_Mo_find_28 : decode M_Mo_find.2.1 28 = .ok (.iinc 2 1, 3) := by decide +kernel
theorem d_Mo_find_31 : decode M_Mo_find.2.1 31 = .ok (.goto (-29), 3) := by decide +kernel
theorem d_Mo_find_34 : decode M_Mo_find.2.1 34 = .ok (.iconst (-1), 1) := by decide +kernel
theorem d_Mo_find_35 : decode M_Mo_find.2.1 35 = .ok (.ireturn, 1) := by decide +kernel
theorem d_Mo_drop_0 : decode M_Mo_drop.2.1 0 = .ok (.aload_n 0, 1) := by decide +kernel
theorem d_Mo_drop_1 : decode M_Mo_drop.2.1 1 = .ok (.iload_n 1, 1) := by decide +kernel
theorem d_Mo_drop_2 : decode M_Mo_drop.2.1 2 = .ok (.invokevirtual 127, 3) := by decide +kernel
theorem d_Mo_drop_5 : decode M_Mo_drop.2.1 5 = .ok (.istore_n 2, 1) := by decide +kernel
theorem d_Mo_drop_6 : decode M_Mo_drop.2.1 6 = .ok (.iload_n 2, 1) := by decide +kernel
theorem d_Mo_drop_7 : decode M_Mo_drop.2.1 7 = .ok (.ifCond .ge 7, 3) := by decide +kernel
theorem d_Mo_drop_10 : decode M_Mo_drop.2.1 10 = .ok (.sipush (-550), 3) := by decide +kernel
theorem d_Mo_drop_13 : decode M_Mo_drop.2.1 13 = .ok (.ireturn, 1) := by decide +kernel
theorem d_Mo_drop_14 : decode M_Mo_drop.2.1 14 = .ok (.aload_n 0, 1) := by decide +kernel
theorem d_Mo_drop_15 : decode M_Mo_drop.2.1 15 = .ok (.iload_n 2, 1) := by decide +kernel
theorem d_Mo_drop_16 : decode M_Mo_drop.2.1 16 = .ok (.invokevirtual 122, 3) := by decide +kernel
theorem d_Mo_drop_19 : decode M_Mo_drop.2.1 19 = .ok (.aload_n 0, 1) := by decide +kernel
theorem d_Mo_drop_20 : decode M_Mo_drop.2.1 20 = .ok (.dup, 1) := by decide +kernel
theorem d_Mo_drop_21 : decode M_Mo_drop.2.1 21 = .ok (.getfield 88, 3) := by decide +kernel
theorem d_Mo_drop_24 : decode M_Mo_drop.2.1 24 = .ok (.iconst 1, 1) := by decide +kernel
theorem d_Mo_drop_25 : decode M_Mo_drop.2.1 25 = .ok (.iadd, 1) := by decide +kernel
theorem d_Mo_drop_26 : decode M_Mo_drop.2.1 26 = .ok (.putfield 88, 3) := by decide +kernel
theorem d_Mo_drop_29 : decode M_Mo_drop.2.1 29 = .ok (.aload_n 0, 1) := by decide +kernel
theorem d_Mo_drop_30 : decode M_Mo_drop.2.1 30 = .ok (.invokevirtual 133, 3) := by decide +kernel
theorem d_Mo_drop_33 : decode M_Mo_drop.2.1 33 = .ok (.iconst 1, 1) := by decide +kernel
theorem d_Mo_drop_34 : decode M_Mo_drop.2.1 34 = .ok (.ireturn, 1) := by decide +kernel
theorem d_Mo_hurry_0 : decode M_Mo_hurry.2.1 0 = .ok (.aload_n 0, 1) := by decide +kernel
theorem d_Mo_hurry_1 : decode M_Mo_hurry.2.1 1 = .ok (.iload_n 1, 1) := by decide +kernel
theorem d_Mo_hurry_2 : decode M_Mo_hurry.2.1 2 = .ok (.invokevirtual 127, 3) := by decide +kernel
theorem d_Mo_hurry_5 : decode M_Mo_hurry.2.1 5 = .ok (.istore_n 2, 1) := by decide +kernel
theorem d_Mo_hurry_6 : decode M_Mo_hurry.2.1 6 = .ok (.iload_n 2, 1) := by decide +kernel
theorem d_Mo_hurry_7 : decode M_Mo_hurry.2.1 7 = .ok (.ifCond .ge 7, 3) := by decide +kernel
theorem d_Mo_hurry_10 : decode M_Mo_hurry.2.1 10 = .ok (.sipush (-550), 3) := by decide +kernel
theorem d_Mo_hurry_13 : decode M_Mo_hurry.2.1 13 = .ok (.ireturn, 1) := by decide +kernel
theorem d_Mo_hurry_14 : decode M_Mo_hurry.2.1 14 = .ok (.aload_n 0, 1) := by decide +kernel
theorem d_Mo_hurry_15 : decode M_Mo_hurry.2.1 15 = .ok (.iload_n 2, 1) := by decide +kernel
theorem d_Mo_hurry_16 : decode M_Mo_hurry.2.1 16 = .ok (.bipush 13, 2) := by decide +kernel
theorem d_Mo_hurry_18 : decode M_Mo_hurry.2.1 18 = .ok (.iadd, 1) := by decide +kernel
theorem d_Mo_hurry_19 : decode M_Mo_hurry.2.1 19 = .ok (.aload_n 0, 1) := by decide +kernel
theorem d_Mo_hurry_20 : decode M_Mo_hurry.2.1 20 = .ok (.getfield 101, 3) := by decide +kernel
theorem d_Mo_hurry_23 : decode M_Mo_hurry.2.1 23 = .ok (.invokevirtual 111, 3) := by decide +kernel
theorem d_Mo_hurry_26 : decode M_Mo_hurry.2.1 26 = .ok (.aload_n 0, 1) := by decide +kernel
theorem d_Mo_hurry_27 : decode M_Mo_hurry.2.1 27 = .ok (.invokevirtual 133, 3) := by decide +kernel
theorem d_Mo_hurry_30 : decode M_Mo_hurry.2.1 30 = .ok (.iconst 1, 1) := by decide +kernel
theorem d_Mo_hurry_31 : decode M_Mo_hurry.2.1 31 = .ok (.ireturn, 1) := by decide +kernel
theorem d_Mo_count_0 : decode M_Mo_count.2.1 0 = .ok (.iconst 0, 1) := by decide +kernel
theorem d_Mo_count_1 : decode M_Mo_count.2.1 1 = .ok (.istore_n 2, 1) := by decide +kernel
theorem d_Mo_count_2 : decode M_Mo_count.2.1 2 = .ok (.iconst 0, 1) := by decide +kernel
theorem d_Mo_count_3 : decode M_Mo_count.2.1 3 = .ok (.istore_n 3, 1) := by decide +kernel
theorem d_Mo_count_4 : decode M_Mo_count.2.1 4 = .ok (.iload_n 3, 1) := by decide +kernel
theorem d_Mo_count_5 : decode M_Mo_count.2.1 5 = .ok (.aload_n 0, 1) := by decide +kernel
theorem d_Mo_count_6 : decode M_Mo_count.2.1 6 = .ok (.getfield 85, 3) := by decide +kernel
theorem d_Mo_count_9 : decode M_Mo_count.2.1 9 = .ok (.if_icmp .ge 21, 3) := by decide +kernel
theorem d_Mo_count_12 : decode M_Mo_count.2.1 12 = .ok (.iload_n 2, 1) := by decide +kernel
theorem d_Mo_count_13 : decode M_Mo_count.2.1 13 = .ok (.aload_n 0, 1) := by decide +kernel
theorem d_Mo_count_14 : decode M_Mo_count.2.1 14 = .ok (.bipush 16, 2) := by decide +kernel
theorem d_Mo_count_16 : decode M_Mo_count.2.1 16 = .ok (.iload_n 3, 1) := by decide +kernel
theorem d_Mo_count_17 : decode M_Mo_count.2.1 17 = .ok (.imul, 1) := by decide +kernel
theorem d_Mo_count_18 : decode M_Mo_count.2.1 18 = .ok (.iconst 1, 1) := by decide +kernel
theorem d_Mo_count_19 : decode M_Mo_count.2.1 19 = .ok (.invokevirtual 118, 3) := by decide +kernel
theorem d_Mo_count_22 : decode M_Mo_count.2.1 22 = .ok (.iadd, 1) := by decide +kernel
theorem d_Mo_count_23 : decode M_Mo_count.2.1 23 = .ok (.istore_n 2, 1) := by decide +kernel
theorem d_Mo_count_24 : decode M_Mo_count.2.1 24 = .ok (.iinc 3 1, 3) := by decide +kernel
theorem d_Mo_count_27 : decode M_Mo_count.2.1 27 = .ok (.goto (-23), 3) := by decide +kernel
theorem d_Mo_count_30 : decode M_Mo_count.2.1 30 = .ok (.iload_n 1, 1) := by decide +kernel
theorem d_Mo_count_31 : decode M_Mo_count.2.1 31 = .ok (.tableswitch 84 0 6 #[41, 46, 51, 53, 58, 63, 68], 41) := by decide +kernel
theorem d_Mo_count_72 : decode M_Mo_count.2.1 72 = .ok (.aload_n 0, 1) := by decide +kernel
theorem d_Mo_count_73 : decode M_Mo_count.2.1 73 = .ok (.getfield 85, 3) := by decide +kernel
theorem d_Mo_count_76 : decode M_Mo_count.2.1 76 = .ok (.ireturn, 1) := by decide +kernel
theorem d_Mo_count_77 : decode M_Mo_count.2.1 77 = .ok (.aload_n 0, 1) := by decide +kernel
theorem d_Mo_count_78 : decode M_Mo_count.2.1 78 = .ok (.invokevirtual 94, 3) := by decide +kernel
theorem d_Mo_count_81 : decode M_Mo_count.2.1 81 = .ok (.ireturn, 1) := by decide +kernel
theorem d_Mo_count_82 : decode M_Mo_count.2.1 82 = .ok (.iload_n 2, 1) := by decide +kernel
theorem d_Mo_count_83 : decode M_Mo_count.2.1 83 = .ok (.ireturn, 1) := by decide +kernel
theorem d_Mo_count_84 : decode M_Mo_count.2.1 84 = .ok (.aload_n 0, 1) := by decide +kernel
theorem d_Mo_count_85 : decode M_Mo_count.2.1 85 = .ok (.getfield 88, 3) := by decide +kernel
theorem d_Mo_count_88 : decode M_Mo_count.2.1 88 = .ok (.ireturn, 1) := by decide +kernel
theorem d_Mo_count_89 : decode M_Mo_count.2.1 89 = .ok (.aload_n 0, 1) := by decide +kernel
theorem d_Mo_count_90 : decode M_Mo_count.2.1 90 = .ok (.getfield 101, 3) := by decide +kernel
theorem d_Mo_count_93 : decode M_Mo_count.2.1 93 = .ok (.ireturn, 1) := by decide +kernel
theorem d_Mo_count_94 : decode M_Mo_count.2.1 94 = .ok (.aload_n 0, 1) := by decide +kernel
theorem d_Mo_count_95 : decode M_Mo_count.2.1 95 = .ok (.getfield 98, 3) := by decide +kernel
theorem d_Mo_count_98 : decode M_Mo_count.2.1 98 = .ok (.ireturn, 1) := by decide +kernel
theorem d_Mo_count_99 : decode M_Mo_count.2.1 99 = .ok (.aload_n 0, 1) := by decide +kernel
theorem d_Mo_count_100 : decode M_Mo_count.2.1 100 = .ok (.getfield 67, 3) := by decide +kernel
theorem d_Mo_count_103 : decode M_Mo_count.2.1 103 = .ok (.ifCond .eq 10, 3) := by decide +kernel
theorem d_Mo_count_106 : decode M_Mo_count.2.1 106 = .ok (.aload_n 0, 1) := by decide +kernel
theorem d_Mo_count_107 : decode M_Mo_count.2.1 107 = .ok (.getfield 74, 3) := by decide +kernel
theorem d_Mo_count_110 : decode M_Mo_count.2.1 110 = .ok (.goto 4, 3) := by decide +kernel
theorem d_Mo_count_113 : decode M_Mo_count.2.1 113 = .ok (.iconst (-1), 1) := by decide +kernel
theorem d_Mo_count_114 : decode M_Mo_count.2.1 114 = .ok (.ireturn, 1) := by decide +kernel
theorem d_Mo_count_115 : decode M_Mo_count.2.1 115 = .ok (.sipush (-501), 3) := by decide +kernel
theorem d_Mo_count_118 : decode M_Mo_count.2.1 118 = .ok (.ireturn, 1) := by decide +kernel
theorem d_Mo_message_0 : decode M_Mo_message.2.1 0 = .ok (.iload_n 1, 1) := by decide +kernel
theorem d_Mo_message_1 : decode M_Mo_message.2.1 1 = .ok (.ifCond .lt 11, 3) := by decide +kernel
theorem d_Mo_message_4 : decode M_Mo_message.2.1 4 = .ok (.iload_n 1, 1) := by decide +kernel
theorem d_Mo_message_5 : decode M_Mo_message.2.1 5 = .ok (.aload_n 0, 1) := by decide +kernel
theorem d_Mo_message_6 : decode M_Mo_message.2.1 6 = .ok (.getfield 85, 3) := by decide +kernel
theorem d_Mo_message_9 : decode M_Mo_message.2.1 9 = .ok (.if_icmp .lt 7, 3) := by decide +kernel
theorem d_Mo_message_12 : decode M_Mo_message.2.1 12 = .ok (.iconst 0, 1) := by decide +kernel
theorem d_Mo_message_13 : decode M_Mo_message.2.1 13 = .ok (.goto 12, 3) := by decide +kernel
theorem d_Mo_message_16 : decode M_Mo_message.2.1 16 = .ok (.aload_n 0, 1) := by decide +kernel
theorem d_Mo_message_17 : decode M_Mo_message.2.1 17 = .ok (.getfield 28, 3) := by decide +kernel
theorem d_Mo_message_20 : decode M_Mo_message.2.1 20 = .ok (.bipush 16, 2) := by decide +kernel
theorem d_Mo_message_22 : decode M_Mo_message.2.1 22 = .ok (.iload_n 1, 1) := by decide +kernel
theorem d_Mo_message_23 : decode M_Mo_message.2.1 23 = .ok (.imul, 1) := by decide +kernel
theorem d_Mo_message_24 : decode M_Mo_message.2.1 24 = .ok (.iaload, 1) := by decide +kernel
theorem d_Mo_message_25 : decode M_Mo_message.2.1 25 = .ok (.ireturn, 1) := by decide +kernel
theorem d_Mo_status_0 : decode M_Mo_status.2.1 0 = .ok (.aload_n 0, 1) := by decide +kernel
theorem d_Mo_status_1 : decode M_Mo_status.2.1 1 = .ok (.iload_n 1, 1) := by decide +kernel
theorem d_Mo_status_2 : decode M_Mo_status.2.1 2 = .ok (.invokevirtual 127, 3) := by decide +kernel
theorem d_Mo_status_5 : decode M_Mo_status.2.1 5 = .ok (.istore_n 3, 1) := by decide +kernel
theorem d_Mo_status_6 : decode M_Mo_status.2.1 6 = .ok (.iconst 0, 1) := by decide +kernel
theorem d_Mo_status_7 : decode M_Mo_status.2.1 7 = .ok (.istore 4, 2) := by decide +kernel
theorem d_Mo_status_9 : decode M_Mo_status.2.1 9 = .ok (.iload_n 3, 1) := by decide +kernel
theorem d_Mo_status_10 : decode M_Mo_status.2.1 10 = .ok (.ifCond .lt 50, 3) := by decide +kernel
theorem d_Mo_status_13 : decode M_Mo_status.2.1 13 = .ok (.iload 4, 2) := by decide +kernel
theorem d_Mo_status_15 : decode M_Mo_status.2.1 15 = .ok (.aload_n 0, 1) := by decide +kernel
theorem d_Mo_status_16 : decode M_Mo_status.2.1 16 = .ok (.getfield 28, 3) := by decide +kernel
theorem d_Mo_status_19 : decode M_Mo_status.2.1 19 = .ok (.iload_n 3, 1) := by decide +kernel
theorem d_Mo_status_20 : decode M_Mo_status.2.1 20 = .ok (.iconst 3, 1) := by decide +kernel
theorem d_Mo_status_21 : decode M_Mo_status.2.1 21 = .ok (.iadd, 1) := by decide +kernel
theorem d_Mo_status_22 : decode M_Mo_status.2.1 22 = .ok (.iaload, 1) := by decide +kernel
theorem d_Mo_status_23 : decode M_Mo_status.2.1 23 = .ok (.if_icmp .ge 37, 3) := by decide +kernel
theorem d_Mo_status_26 : decode M_Mo_status.2.1 26 = .ok (.aload_n 0, 1) := by decide +kernel
theorem d_Mo_status_27 : decode M_Mo_status.2.1 27 = .ok (.getfield 28, 3) := by decide +kernel
theorem d_Mo_status_30 : decode M_Mo_status.2.1 30 = .ok (.iload_n 3, 1) := by decide +kernel
theorem d_Mo_status_31 : decode M_Mo_status.2.1 31 = .ok (.iconst 4, 1) := by decide +kernel
theorem d_Mo_status_32 : decode M_Mo_status.2.1 32 = .ok (.iadd, 1) := by decide +kernel
theorem d_Mo_status_33 : decode M_Mo_status.2.1 33 = .ok (.iload 4, 2) := by decide +kernel
theorem d_Mo_status_35 : decode M_Mo_status.2.1 35 = .ok (.iadd, 1) := by decide +kernel
theorem d_Mo_status_36 : decode M_Mo_status.2.1 36 = .ok (.iaload, 1) := by decide +kernel
theorem d_Mo_status_37 : decode M_Mo_status.2.1 37 = .ok (.iload_n 2, 1) := by decide +kernel
theorem d_Mo_status_38 : decode M_Mo_status.2.1 38 = .ok (.if_icmp .ne 16, 3) := by decide +kernel
theorem d_Mo_status_41 : decode M_Mo_status.2.1 41 = .ok (.aload_n 0, 1) := by decide +kernel
theorem d_Mo_status_42 : decode M_Mo_status.2.1 42 = .ok (.getfield 28, 3) := by decide +kernel
theorem d_Mo_status_45 : decode M_Mo_status.2.1 45 = .ok (.iload_n 3, 1) := by decide +kernel
theorem d_Mo_status_46 : decode M_Mo_status.2.1 46 = .ok (.bipush 8, 2) := by decide +kernel
theorem d_Mo_status_48 : decode M_Mo_status.2.1 48 = .ok (.iadd, 1) := by decide +kernel
theorem d_Mo_status_49 : decode M_Mo_status.2.1 49 = .ok (.iload 4, 2) := by decide +kernel
theorem d_Mo_status_51 : decode M_Mo_status.2.1 51 = .ok (.iadd, 1) := by decide +kernel
theorem d_Mo_status_52 : decode M_Mo_status.2.1 52 = .ok (.iaload, 1) := by decide +kernel
theorem d_Mo_status_53 : decode M_Mo_status.2.1 53 = .ok (.ireturn, 1) := by decide +kernel
theorem d_Mo_status_54 : decode M_Mo_status.2.1 54 = .ok (.iinc 4 1, 3) := by decide +kernel
theorem d_Mo_status_57 : decode M_Mo_status.2.1 57 = .ok (.goto (-48), 3) := by decide +kernel
theorem d_Mo_status_60 : decode M_Mo_status.2.1 60 = .ok (.iconst 0, 1) := by decide +kernel
theorem d_Mo_status_61 : decode M_Mo_status.2.1 61 = .ok (.ireturn, 1) := by decide +kernel
theorem d_Mo_sender_0 : decode M_Mo_sender.2.1 0 = .ok (.aload_n 0, 1) := by decide +kernel
theorem d_Mo_sender_1 : decode M_Mo_sender.2.1 1 = .ok (.iload_n 1, 1) := by decide +kernel
theorem d_Mo_sender_2 : decode M_Mo_sender.2.1 2 = .ok (.invokevirtual 127, 3) := by decide +kernel
theorem d_Mo_sender_5 : decode M_Mo_sender.2.1 5 = .ok (.istore_n 2, 1) := by decide +kernel
theorem d_Mo_sender_6 : decode M_Mo_sender.2.1 6 = .ok (.iload_n 2, 1) := by decide +kernel
theorem d_Mo_sender_7 : decode M_Mo_sender.2.1 7 = .ok (.ifCond .ge 8, 3) := by decide +kernel
theorem d_Mo_sender_10 : decode M_Mo_sender.2.1 10 = .ok (.bipush (-2), 2) := by decide +kernel
theorem d_Mo_sender_12 : decode M_Mo_sender.2.1 12 = .ok (.goto 11, 3) := by decide +kernel
theorem d_Mo_sender_15 : decode M_Mo_sender.2.1 15 = .ok (.aload_n 0, 1) := by decide +kernel
theorem d_Mo_sender_16 : decode M_Mo_sender.2.1 16 = .ok (.getfield 28, 3) := by decide +kernel
theorem d_Mo_sender_19 : decode M_Mo_sender.2.1 19 = .ok (.iload_n 2, 1) := by decide +kernel
theorem d_Mo_sender_20 : decode M_Mo_sender.2.1 20 = .ok (.iconst 1, 1) := by decide +kernel
theorem d_Mo_sender_21 : decode M_Mo_sender.2.1 21 = .ok (.iadd, 1) := by decide +kernel
theorem d_Mo_sender_22 : decode M_Mo_sender.2.1 22 = .ok (.iaload, 1) := by decide +kernel
theorem d_Mo_sender_23 : decode M_Mo_sender.2.1 23 = .ok (.ireturn, 1) := by decide +kernel
theorem d_Mo_due_0 : decode M_Mo_due.2.1 0 = .ok (.aload_n 0, 1) := by decide +kernel
theorem d_Mo_due_1 : decode M_Mo_due.2.1 1 = .ok (.iload_n 1, 1) := by decide +kernel
theorem d_Mo_due_2 : decode M_Mo_due.2.1 2 = .ok (.invokevirtual 127, 3) := by decide +kernel
theorem d_Mo_due_5 : decode M_Mo_due.2.1 5 = .ok (.istore_n 2, 1) := by decide +kernel
theorem d_Mo_due_6 : decode M_Mo_due.2.1 6 = .ok (.iload_n 2, 1) := by decide +kernel
theorem d_Mo_due_7 : decode M_Mo_due.2.1 7 = .ok (.ifCond .ge 7, 3) := by decide +kernel
theorem d_Mo_due_10 : decode M_Mo_due.2.1 10 = .ok (.iconst (-1), 1) := by decide +kernel
theorem d_Mo_due_11 : decode M_Mo_due.2.1 11 = .ok (.goto 12, 3) := by decide +kernel
theorem d_Mo_due_14 : decode M_Mo_due.2.1 14 = .ok (.aload_n 0, 1) := by decide +kernel
theorem d_Mo_due_15 : decode M_Mo_due.2.1 15 = .ok (.getfield 28, 3) := by decide +kernel
theorem d_Mo_due_18 : decode M_Mo_due.2.1 18 = .ok (.iload_n 2, 1) := by decide +kernel
theorem d_Mo_due_19 : decode M_Mo_due.2.1 19 = .ok (.bipush 13, 2) := by decide +kernel
theorem d_Mo_due_21 : decode M_Mo_due.2.1 21 = .ok (.iadd, 1) := by decide +kernel
theorem d_Mo_due_22 : decode M_Mo_due.2.1 22 = .ok (.iaload, 1) := by decide +kernel
theorem d_Mo_due_23 : decode M_Mo_due.2.1 23 = .ok (.ireturn, 1) := by decide +kernel
theorem d_Mo_received_0 : decode M_Mo_received.2.1 0 = .ok (.iload_n 2, 1) := by decide +kernel
theorem d_Mo_received_1 : decode M_Mo_received.2.1 1 = .ok (.iconst 3, 1) := by decide +kernel
theorem d_Mo_received_2 : decode M_Mo_received.2.1 2 = .ok (.invokestatic 63, 3) := by decide +kernel
theorem d_Mo_received_5 : decode M_Mo_received.2.1 5 = .ok (.ifCond .ne 22, 3) := by decide +kernel
theorem d_Mo_received_8 : decode M_Mo_received.2.1 8 = .ok (.iload_n 1, 1) := by decide +kernel
theorem d_Mo_received_9 : decode M_Mo_received.2.1 9 = .ok (.iload_n 2, 1) := by decide +kernel
theorem d_Mo_received_10 : decode M_Mo_received.2.1 10 = .ok (.iconst 3, 1) := by decide +kernel
theorem d_Mo_received_11 : decode M_Mo_received.2.1 11 = .ok (.if_icmp .ne 8, 3) := by decide +kernel
theorem d_Mo_received_14 : decode M_Mo_received.2.1 14 = .ok (.bipush 7, 2) := by decide +kernel
theorem d_Mo_received_16 : decode M_Mo_received.2.1 16 = .ok (.goto 5, 3) := by decide +kernel
theorem d_Mo_received_19 : decode M_Mo_received.2.1 19 = .ok (.bipush 63, 2) := by decide +kernel
theorem d_Mo_received_21 : decode M_Mo_received.2.1 21 = .ok (.invokestatic 63, 3) := by decide +kernel
theorem d_Mo_received_24 : decode M_Mo_received.2.1 24 = .ok (.ifCond .eq 7, 3) := by decide +kernel
theorem d_Mo_received_27 : decode M_Mo_received.2.1 27 = .ok (.sipush (-501), 3) := by decide +kernel
theorem d_Mo_received_30 : decode M_Mo_received.2.1 30 = .ok (.ireturn, 1) := by decide +kernel
theorem d_Mo_received_31 : decode M_Mo_received.2.1 31 = .ok (.iload_n 2, 1) := by decide +kernel
theorem d_Mo_received_32 : decode M_Mo_received.2.1 32 = .ok (.ifCond .ne 12, 3) := by decide +kernel
theorem d_Mo_received_35 : decode M_Mo_received.2.1 35 = .ok (.aload_n 0, 1) := by decide +kernel
theorem d_Mo_received_36 : decode M_Mo_received.2.1 36 = .ok (.getfield 37, 3) := by decide +kernel
theorem d_Mo_received_39 : decode M_Mo_received.2.1 39 = .ok (.iload_n 1, 1) := by decide +kernel
theorem d_Mo_received_40 : decode M_Mo_received.2.1 40 = .ok (.iaload, 1) := by decide +kernel
theorem d_Mo_received_41 : decode M_Mo_received.2.1 41 = .ok (.goto 37, 3) := by decide +kernel
theorem d_Mo_received_44 : decode M_Mo_received.2.1 44 = .ok (.iload_n 2, 1) := by decide +kernel
theorem d_Mo_received_45 : decode M_Mo_received.2.1 45 = .ok (.iconst 1, 1) := by decide +kernel
theorem d_Mo_received_46 : decode M_Mo_received.2.1 46 = .ok (.if_icmp .ne 12, 3) := by decide +kernel
theorem d_Mo_received_49 : decode M_Mo_received.2.1 49 = .ok (.aload_n 0, 1) := by decide +kernel
theorem d_Mo_received_50 : decode M_Mo_received.2.1 50 = .ok (.getfield 40, 3) := by decide +kernel
theorem d_Mo_received_53 : decode M_Mo_received.2.1 53 = .ok (.iload_n 1, 1) := by decide +kernel
theorem d_Mo_received_54 : decode M_Mo_received.2.1 54 = .ok (.iaload, 1) := by decide +kernel
theorem d_Mo_received_55 : decode M_Mo_received.2.1 55 = .ok (.goto 23, 3) := by decide +kernel
theorem d_Mo_received_58 : decode M_Mo_received.2.1 58 = .ok (.iload_n 2, 1) := by decide +kernel
theorem d_Mo_received_59 : decode M_Mo_received.2.1 59 = .ok (.iconst 2, 1) := by decide +kernel
theorem d_Mo_received_60 : decode M_Mo_received.2.1 60 = .ok (.if_icmp .ne 12, 3) := by decide +kernel
theorem d_Mo_received_63 : decode M_Mo_received.2.1 63 = .ok (.aload_n 0, 1) := by decide +kernel
theorem d_Mo_received_64 : decode M_Mo_received.2.1 64 = .ok (.getfield 43, 3) := by decide +kernel
theorem d_Mo_received_67 : decode M_Mo_received.2.1 67 = .ok (.iload_n 1, 1) := by decide +kernel
theorem d_Mo_received_68 : decode M_Mo_received.2.1 68 = .ok (.iaload, 1) := by decide +kernel
theorem d_Mo_received_69 : decode M_Mo_received.2.1 69 = .ok (.goto 9, 3) := by decide +kernel
theorem d_Mo_received_72 : decode M_Mo_received.2.1 72 = .ok (.aload_n 0, 1) := by decide +kernel
theorem d_Mo_received_73 : decode M_Mo_received.2.1 73 = .ok (.getfield 46, 3) := by decide +kernel
theorem d_Mo_received_76 : decode M_Mo_received.2.1 76 = .ok (.iload_n 1, 1) := by decide +kernel
theorem d_Mo_received_77 : decode M_Mo_received.2.1 77 = .ok (.iaload, 1) := by decide +kernel
theorem d_Mo_received_78 : decode M_Mo_received.2.1 78 = .ok (.ireturn, 1) := by decide +kernel
