theorem d_Ma_init_0 : decode M_Ma_init.2.1 0 = .ok (.aload_n 0, 1) := by decide +kernel
theorem d_Ma_init_1 : decode M_Ma_init.2.1 1 = .ok (.invokespecial 1, 3) := by decide +kernel
theorem d_Ma_init_4 : decode M_Ma_init.2.1 4 = .ok (.aload_n 0, 1) := by decide +kernel
theorem d_Ma_init_5 : decode M_Ma_init.2.1 5 = .ok (.iload_n 1, 1) := by decide +kernel
theorem d_Ma_init_6 : decode M_Ma_init.2.1 6 = .ok (.iconst 1, 1) := by decide +kernel
theorem d_Ma_init_7 : decode M_Ma_init.2.1 7 = .ok (.bipush 60, 2) := by decide +kernel
theorem d_Ma_init_9 : decode M_Ma_init.2.1 9 = .ok (.invokestatic 7, 3) := by decide +kernel
theorem d_Ma_init_12 : decode M_Ma_init.2.1 12 = .ok (.putfield 13, 3) := by decide +kernel
theorem d_Ma_init_15 : decode M_Ma_init.2.1 15 = .ok (.aload_n 0, 1) := by decide +kernel
theorem d_Ma_init_16 : decode M_Ma_init.2.1 16 = .ok (.iload_n 2, 1) := by decide +kernel
theorem d_Ma_init_17 : decode M_Ma_init.2.1 17 = .ok (.aload_n 0, 1) := by decide +kernel
theorem d_Ma_init_18 : decode M_Ma_init.2.1 18 = .ok (.getfield 13, 3) := by decide +kernel
theorem d_Ma_init_21 : decode M_Ma_init.2.1 21 = .ok (.sipush 600, 3) := by decide +kernel
theorem d_Ma_init_24 : decode M_Ma_init.2.1 24 = .ok (.invokestatic 7, 3) := by decide +kernel
theorem d_Ma_init_27 : decode M_Ma_init.2.1 27 = .ok (.putfield 17, 3) := by decide +kernel
theorem d_Ma_init_30 : decode M_Ma_init.2.1 30 = .ok (.aload_n 0, 1) := by decide +kernel
theorem d_Ma_init_31 : decode M_Ma_init.2.1 31 = .ok (.iload_n 3, 1) := by decide +kernel
theorem d_Ma_init_32 : decode M_Ma_init.2.1 32 = .ok (.aload_n 0, 1) := by decide +kernel
theorem d_Ma_init_33 : decode M_Ma_init.2.1 33 = .ok (.getfield 17, 3) := by decide +kernel
theorem d_Ma_init_36 : decode M_Ma_init.2.1 36 = .ok (.sipush 6000, 3) := by decide +kernel
theorem d_Ma_init_39 : decode M_Ma_init.2.1 39 = .ok (.invokestatic 7, 3) := by decide +kernel
theorem d_Ma_init_42 : decode M_Ma_init.2.1 42 = .ok (.putfield 20, 3) := by decide +kernel
theorem d_Ma_init_45 : decode M_Ma_init.2.1 45 = .ok (.aload_n 0, 1) := by decide +kernel
theorem d_Ma_init_46 : decode M_Ma_init.2.1 46 = .ok (.new 23, 3) := by decide +kernel
theorem d_Ma_init_49 : decode M_Ma_init.2.1 49 = .ok (.dup, 1) := by decide +kernel
theorem d_Ma_init_50 : decode M_Ma_init.2.1 50 = .ok (.invokespecial 25, 3) := by decide +kernel
theorem d_Ma_init_53 : decode M_Ma_init.2.1 53 = .ok (.putfield 26, 3) := by decide +kernel
theorem d_Ma_init_56 : decode M_Ma_init.2.1 56 = .ok (.aload_n 0, 1) := by decide +kernel
theorem d_Ma_init_57 : decode M_Ma_init.2.1 57 = .ok (.bipush 8, 2) := by decide +kernel
theorem d_Ma_init_59 : decode M_Ma_init.2.1 59 = .ok (.anewarray 30, 3) := by decide +kernel
theorem d_Ma_init_62 : decode M_Ma_init.2.1 62 = .ok (.putfield 32, 3) := by decide +kernel
theorem d_Ma_init_65 : decode M_Ma_init.2.1 65 = .ok (.iconst 0, 1) := by decide +kernel
theorem d_Ma_init_66 : decode M_Ma_init.2.1 66 = .ok (.istore 4, 2) := by decide +kernel
theorem d_Ma_init_68 : decode M_Ma_init.2.1 68 = .ok (.iload 4, 2) := by decide +kernel
theorem d_Ma_init_70 : decode M_Ma_init.2.1 70 = .ok (.bipush 8, 2) := by decide +kernel
theorem d_Ma_init_72 : decode M_Ma_init.2.1 72 = .ok (.if_icmp .ge 23, 3) := by decide +kernel
theorem d_Ma_init_75 : decode M_Ma_init.2.1 75 = .ok (.aload_n 0, 1) := by decide +kernel
theorem d_Ma_init_76 : decode M_Ma_init.2.1 76 = .ok (.getfield 32, 3) := by decide +kernel
theorem d_Ma_init_79 : decode M_Ma_init.2.1 79 = .ok (.iload 4, 2) := by decide +kernel
theorem d_Ma_init_81 : decode M_Ma_init.2.1 81 = .ok (.new 30, 3) := by decide +kernel
theorem d_Ma_init_84 : decode M_Ma_init.2.1 84 = .ok (.dup, 1) := by decide +kernel
theorem d_Ma_init_85 : decode M_Ma_init.2.1 85 = .ok (.invokespecial 36, 3) := by decide +kernel
theorem d_Ma_init_88 : decode M_Ma_init.2.1 88 = .ok (.aastore, 1) := by decide +kernel
theorem d_Ma_init_89 : decode M_Ma_init.2.1 89 = .ok (.iinc 4 1, 3) := by decide +kernel
theorem d_Ma_init_92 : decode M_Ma_init.2.1 92 = .ok (.goto (-24), 3) := by decide +kernel
theorem d_Ma_init_95 : decode M_Ma_init.2.1 95 = .ok (.aload_n 0, 1) := by decide +kernel
theorem d_Ma_init_96 : decode M_Ma_init.2.1 96 = .ok (.bipush 8, 2) := by decide +kernel
theorem d_Ma_init_98 : decode M_Ma_init.2.1 98 = .ok (.newarray .int, 2) := by decide +kernel
theorem d_Ma_init_100 : decode M_Ma_init.2.1 100 = .ok (.putfield 37, 3) := by decide +kernel
theorem d_Ma_init_103 : decode M_Ma_init.2.1 103 = .ok (.aload_n 0, 1) := by decide +kernel
theorem d_Ma_init_104 : decode M_Ma_init.2.1 104 = .ok (.new 41, 3) := by decide +kernel
theorem d_Ma_init_107 : decode M_Ma_init.2.1 107 = .ok (.dup, 1) := by decide +kernel
theorem d_Ma_init_108 : decode M_Ma_init.2.1 108 = .ok (.invokespecial 43, 3) := by decide +kernel
theorem d_Ma_init_111 : decode M_Ma_init.2.1 111 = .ok (.putfield 44, 3) := by decide +kernel
theorem d_Ma_init_114 : decode M_Ma_init.2.1 114 = .ok (.aload_n 0, 1) := by decide +kernel
theorem d_Ma_init_115 : decode M_Ma_init.2.1 115 = .ok (.new 48, 3) := by decide +kernel
theorem d_Ma_init_118 : decode M_Ma_init.2.1 118 = .ok (.dup, 1) := by decide +kernel
theorem d_Ma_init_119 : decode M_Ma_init.2.1 119 = .ok (.invokespecial 50, 3) := by decide +kernel
theorem d_Ma_init_122 : decode M_Ma_init.2.1 122 = .ok (.putfield 51, 3) := by decide +kernel
theorem d_Ma_init_125 : decode M_Ma_init.2.1 125 = .ok (.aload_n 0, 1) := by decide +kernel
theorem d_Ma_init_126 : decode M_Ma_init.2.1 126 = .ok (.new 48, 3) := by decide +kernel
theorem d_Ma_init_129 : decode M_Ma_init.2.1 129 = .ok (.dup, 1) := by decide +kernel
theorem d_Ma_init_130 : decode M_Ma_init.2.1 130 = .ok (.invokespecial 50, 3) := by decide +kernel
theorem d_Ma_init_133 : decode M_Ma_init.2.1 133 = .ok (.putfield 55, 3) := by decide +kernel
theorem d_Ma_init_136 : decode M_Ma_init.2.1 136 = .ok (.aload_n 0, 1) := by decide +kernel
theorem d_Ma_init_137 : decode M_Ma_init.2.1 137 = .ok (.new 58, 3) := by decide +kernel
theorem d_Ma_init_140 : decode M_Ma_init.2.1 140 = .ok (.dup, 1) := by decide +kernel
theorem d_Ma_init_141 : decode M_Ma_init.2.1 141 = .ok (.invokespecial 60, 3) := by decide +kernel
theorem d_Ma_init_144 : decode M_Ma_init.2.1 144 = .ok (.putfield 61, 3) := by decide +kernel
theorem d_Ma_init_147 : decode M_Ma_init.2.1 147 = .ok (.aload_n 0, 1) := by decide +kernel
theorem d_Ma_init_148 : decode M_Ma_init.2.1 148 = .ok (.iconst 0, 1) := by decide +kernel
theorem d_Ma_init_149 : decode M_Ma_init.2.1 149 = .ok (.putfield 65, 3) := by decide +kernel
theorem d_Ma_init_152 : decode M_Ma_init.2.1 152 = .ok (.aload_n 0, 1) := by decide +kernel
theorem d_Ma_init_153 : decode M_Ma_init.2.1 153 = .ok (.iconst 0, 1) := by decide +kernel
theorem d_Ma_init_154 : decode M_Ma_init.2.1 154 = .ok (.putfield 68, 3) := by decide +kernel
theorem d_Ma_init_157 : decode M_Ma_init.2.1 157 = .ok (.aload_n 0, 1) := by decide +kernel
theorem d_Ma_init_158 : decode M_Ma_init.2.1 158 = .ok (.iconst 0, 1) := by decide +kernel
theorem d_Ma_init_159 : decode M_Ma_init.2.1 159 = .ok (.putfield 71, 3) := by decide +kernel
theorem d_Ma_init_162 : decode M_Ma_init.2.1 162 = .ok (.return_, 1) := by decide +kernel
theorem d_Ma_alias_0 : decode M_Ma_alias.2.1 0 = .ok (.iload_n 1, 1) := by decide +kernel
theorem d_Ma_alias_1 : decode M_Ma_alias.2.1 1 = .ok (.bipush 8, 2) := by decide +kernel
theorem d_Ma_alias_3 : decode M_Ma_alias.2.1 3 = .ok (.invokestatic 74, 3) := by decide +kernel
theorem d_Ma_alias_6 : decode M_Ma_alias.2.1 6 = .ok (.ifCond .eq 12, 3) := by decide +kernel
theorem d_Ma_alias_9 : decode M_Ma_alias.2.1 9 = .ok (.iload_n 2, 1) := by decide +kernel
theorem d_Ma_alias_10 : decode M_Ma_alias.2.1 10 = .ok (.bipush 64, 2) := by decide +kernel
theorem d_Ma_alias_12 : decode M_Ma_alias.2.1 12 = .ok (.invokestatic 74, 3) := by decide +kernel
theorem d_Ma_alias_15 : decode M_Ma_alias.2.1 15 = .ok (.ifCond .ne 7, 3) := by decide +kernel
theorem d_Ma_alias_18 : decode M_Ma_alias.2.1 18 = .ok (.sipush (-501), 3) := by decide +kernel
theorem d_Ma_alias_21 : decode M_Ma_alias.2.1 21 = .ok (.ireturn, 1) := by decide +kernel
theorem d_Ma_alias_22 : decode M_Ma_alias.2.1 22 = .ok (.aload_n 0, 1) := by decide +kernel
theorem d_Ma_alias_23 : decode M_Ma_alias.2.1 23 = .ok (.getfield 26, 3) := by decide +kernel
theorem d_Ma_alias_26 : decode M_Ma_alias.2.1 26 = .ok (.iload_n 1, 1) := by decide +kernel
theorem d_Ma_alias_27 : decode M_Ma_alias.2.1 27 = .ok (.iload_n 2, 1) := by decide +kernel
theorem d_Ma_alias_28 : decode M_Ma_alias.2.1 28 = .ok (.invokevirtual 78, 3) := by decide +kernel
theorem d_Ma_alias_31 : decode M_Ma_alias.2.1 31 = .ok (.ifCond .ne 7, 3) := by decide +kernel
theorem d_Ma_alias_34 : decode M_Ma_alias.2.1 34 = .ok (.sipush (-452), 3) := by decide +kernel
theorem d_Ma_alias_37 : decode M_Ma_alias.2.1 37 = .ok (.ireturn, 1) := by decide +kernel
theorem d_Ma_alias_38 : decode M_Ma_alias.2.1 38 = .ok (.aload_n 0, 1) := by decide +kernel
theorem d_Ma_alias_39 : decode M_Ma_alias.2.1 39 = .ok (.getfield 26, 3) := by decide +kernel
theorem d_Ma_alias_42 : decode M_Ma_alias.2.1 42 = .ok (.iload_n 1, 1) := by decide +kernel
theorem d_Ma_alias_43 : decode M_Ma_alias.2.1 43 = .ok (.iload_n 2, 1) := by decide +kernel
theorem d_Ma_alias_44 : decode M_Ma_alias.2.1 44 = .ok (.invokevirtual 81, 3) := by decide +kernel
theorem d_Ma_alias_47 : decode M_Ma_alias.2.1 47 = .ok (.ireturn, 1) := by decide +kernel
theorem d_Ma_unalias_0 : decode M_Ma_unalias.2.1 0 = .ok (.iload_n 1, 1) := by decide +kernel
theorem d_Ma_unalias_1 : decode M_Ma_unalias.2.1 1 = .ok (.bipush 8, 2) := by decide +kernel
theorem d_Ma_unalias_3 : decode M_Ma_unalias.2.1 3 = .ok (.invokestatic 74, 3) := by decide +kernel
theorem d_Ma_unalias_6 : decode M_Ma_unalias.2.1 6 = .ok (.ifCond .ne 7, 3) := by decide +kernel
theorem d_Ma_unalias_9 : decode M_Ma_unalias.2.1 9 = .ok (.sipush (-501), 3) := by decide +kernel
theorem d_Ma_unalias_12 : decode M_Ma_unalias.2.1 12 = .ok (.ireturn, 1) := by decide +kernel
theorem d_Ma_unalias_13 : decode M_Ma_unalias.2.1 13 = .ok (.aload_n 0, 1) := by decide +kernel
theorem d_Ma_unalias_14 : decode M_Ma_unalias.2.1 14 = .ok (.getfield 26, 3) := by decide +kernel
theorem d_Ma_unalias_17 : decode M_Ma_unalias.2.1 17 = .ok (.iload_n 1, 1) := by decide +kernel
theorem d_Ma_unalias_18 : decode M_Ma_unalias.2.1 18 = .ok (.invokevirtual 85, 3) := by decide +kernel
theorem d_Ma_unalias_21 : decode M_Ma_unalias.2.1 21 = .ok (.ireturn, 1) := by decide +kernel
theorem d_Ma_route_0 : decode M_Ma_route.2.1 0 = .ok (.iload_n 1, 1) := by decide +kernel
theorem d_Ma_route_1 : decode M_Ma_route.2.1 1 = .ok (.invokestatic 89, 3) := by decide +kernel
theorem d_Ma_route_4 : decode M_Ma_route.2.1 4 = .ok (.ifCond .eq 21, 3) := by decide +kernel
theorem d_Ma_route_7 : decode M_Ma_route.2.1 7 = .ok (.iload_n 2, 1) := by decide +kernel
theorem d_Ma_route_8 : decode M_Ma_route.2.1 8 = .ok (.bipush 8, 2) := by decide +kernel
theorem d_Ma_route_10 : decode M_Ma_route.2.1 10 = .ok (.invokestatic 74, 3) := by decide +kernel
theorem d_Ma_route_13 : decode M_Ma_route.2.1 13 = .ok (.ifCond .eq 12, 3) := by decide +kernel
theorem d_Ma_route_16 : decode M_Ma_route.2.1 16 = .ok (.iload_n 3, 1) := by decide +kernel
theorem d_Ma_route_17 : decode M_Ma_route.2.1 17 = .ok (.bipush 100, 2) := by decide +kernel
theorem d_Ma_route_19 : decode M_Ma_route.2.1 19 = .ok (.invokestatic 74, 3) := by decide +kernel
theorem d_Ma_route_22 : decode M_Ma_route.2.1 22 = .ok (.ifCond .ne 7, 3) := by decide +kernel
theorem d_Ma_route_25 : decode M_Ma_route.2.1 25 = .ok (.sipush (-501), 3) := by decide +kernel
theorem d_Ma_route_28 : decode M_Ma_route.2.1 28 = .ok (.ireturn, 1) := by decide +kernel
theorem d_Ma_route_29 : decode M_Ma_route.2.1 29 = .ok (.aload_n 0, 1) := by decide +kernel
theorem d_Ma_route_30 : decode M_Ma_route.2.1 30 = .ok (.getfield 32, 3) := by decide +kernel
theorem d_Ma_route_33 : decode M_Ma_route.2.1 33 = .ok (.iload_n 1, 1) := by decide +kernel
theorem d_Ma_route_34 : decode M_Ma_route.2.1 34 = .ok (.aaload, 1) := by decide +kernel
theorem d_Ma_route_35 : decode M_Ma_route.2.1 35 = .ok (.iload_n 2, 1) := by decide +kernel
theorem d_Ma_route_36 : decode M_Ma_route.2.1 36 = .ok (.invokevirtual 93, 3) := by decide +kernel
theorem d_Ma_route_39 : decode M_Ma_route.2.1 39 = .ok (.ifCond .ne 7, 3) := by decide +kernel
theorem d_Ma_route_42 : decode M_Ma_route.2.1 42 = .ok (.sipush (-452), 3) := by decide +kernel
theorem d_Ma_route_45 : decode M_Ma_route.2.1 45 = .ok (.ireturn, 1) := by decide +kernel
theorem d_Ma_route_46 : decode M_Ma_route.2.1 46 = .ok (.aload_n 0, 1) := by decide +kernel
theorem d_Ma_route_47 : decode M_Ma_route.2.1 47 = .ok (.getfield 32, 3) := by decide +kernel
theorem d_Ma_route_50 : decode M_Ma_route.2.1 50 = .ok (.iload_n 1, 1) := by decide +kernel
theorem d_Ma_route_51 : decode M_Ma_route.2.1 51 = .ok (.aaload, 1) := by decide +kernel
theorem d_Ma_route_52 : decode M_Ma_route.2.1 52 = .ok (.iload_n 2, 1) := by decide +kernel
theorem d_Ma_route_53 : decode M_Ma_route.2.1 53 = .ok (.iload_n 3, 1) := by decide +kernel
theorem d_Ma_route_54 : decode M_Ma_route.2.1 54 = .ok (.invokevirtual 95, 3) := by decide +kernel
theorem d_Ma_route_57 : decode M_Ma_route.2.1 57 = .ok (.ireturn, 1) := by decide +kernel
theorem d_Ma_unroute_0 : decode M_Ma_unroute.2.1 0 = .ok (.iload_n 1, 1) := by decide +kernel
theorem d_Ma_unroute_1 : decode M_Ma_unroute.2.1 1 = .ok (.invokestatic 89, 3) := by decide +kernel
theorem d_Ma_unroute_4 : decode M_Ma_unroute.2.1 4 = .ok (.ifCond .ne 7, 3) := by decide +kernel
theorem d_Ma_unroute_7 : decode M_Ma_unroute.2.1 7 = .ok (.sipush (-501), 3) := by decide +kernel
theorem d_Ma_unroute_10 : decode M_Ma_unroute.2.1 10 = .ok (.ireturn, 1) := by decide +kernel
theorem d_Ma_unroute_11 : decode M_Ma_unroute.2.1 11 = .ok (.aload_n 0, 1) := by decide +kernel
theorem d_Ma_unroute_12 : decode M_Ma_unroute.2.1 12 = .ok (.getfield 32, 3) := by decide +kernel
theorem d_Ma_unroute_15 : decode M_Ma_unroute.2.1 15 = .ok (.iload_n 1, 1) := by decide +kernel
theorem d_Ma_unroute_16 : decode M_Ma_unroute.2.1 16 = .ok (.aaload, 1) := by decide +kernel
theorem d_Ma_unroute_17 : decode M_Ma_unroute.2.1 17 = .ok (.invokevirtual 96, 3) := by decide +kernel
theorem d_Ma_unroute_20 : decode M_Ma_unroute.2.1 20 = .ok (.ireturn, 1) := by decide +kernel
theorem d_Ma_host_0 : decode M_Ma_host.2.1 0 = .ok (.iload_n 1, 1) := by decide +kernel
theorem d_Ma_host_1 : decode M_Ma_host.2.1 1 = .ok (.bipush 8, 2) := by decide +kernel
theorem d_Ma_host_3 : decode M_Ma_host.2.1 3 = .ok (.invokestatic 74, 3) := by decide +kernel
theorem d_Ma_host_6 : decode M_Ma_host.2.1 6 = .ok (.ifCond .eq 11, 3) := by decide +kernel
theorem d_Ma_host_9 : decode M_Ma_host.2.1 9 = .ok (.iload_n 2, 1) := by decide +kernel
theorem d_Ma_host_10 : decode M_Ma_host.2.1 10 = .ok (.iconst 3, 1) := by decide +kernel
theorem d_Ma_host_11 : decode M_Ma_host.2.1 11 = .ok (.invokestatic 74, 3) := by decide +kernel
theorem d_Ma_host_14 : decode M_Ma_host.2.1 14 = .ok (.ifCond .ne 7, 3) := by decide +kernel
theorem d_Ma_host_17 : decode M_Ma_host.2.1 17 = .ok (.sipush (-501), 3) := by decide +kernel
theorem d_Ma_host_20 : decode M_Ma_host.2.1 20 = .ok (.ireturn, 1) := by decide +kernel
theorem d_Ma_host_21 : decode M_Ma_host.2.1 21 = .ok (.aload_n 0, 1) := by decide +kernel
theorem d_Ma_host_22 : decode M_Ma_host.2.1 22 = .ok (.getfield 37, 3) := by decide +kernel
theorem d_Ma_host_25 : decode M_Ma_host.2.1 25 = .ok (.iload_n 1, 1) := by decide +kernel
theorem d_Ma_host_26 : decode M_Ma_host.2.1 26 = .ok (.iaload, 1) := by decide +kernel
theorem d_Ma_host_27 : decode M_Ma_host.2.1 27 = .ok (.istore_n 3, 1) := by decide +kernel
theorem d_Ma_host_28 : decode M_Ma_host.2.1 28 = .ok (.aload_n 0, 1) := by decide +kernel
theorem d_Ma_host_29 : decode M_Ma_host.2.1 29 = .ok (.getfield 37, 3) := by decide +kernel
theorem d_Ma_host_32 : decode M_Ma_host.2.1 32 = .ok (.iload_n 1, 1) := by decide +kernel
theorem d_Ma_host_33 : decode M_Ma_host.2.1 33 = .ok (.iload_n 2, 1) := by decide +kernel
theorem d_Ma_host_34 : decode M_Ma_host.2.1 34 = .ok (.iastore, 1) := by decide +kernel
theorem d_Ma_host_35 : decode M_Ma_host.2.1 35 = .ok (.iload_n 3, 1) := by decide +kernel
theorem d_Ma_host_36 : decode M_Ma_host.2.1 36 = .ok (.ireturn, 1) := by decide +kernel
theorem d_Ma_from_0 : decode M_Ma_from.2.1 0 = .ok (.iload_n 1, 1) := by decide +kernel
theorem d_Ma_from_1 : decode M_Ma_from.2.1 1 = .ok (.iconst (-1), 1) := by decide +kernel
theorem d_Ma_from_2 : decode M_Ma_from.2.1 2 = .ok (.if_icmp .eq 16, 3) := by decide +kernel
theorem d_Ma_from_5 : decode M_Ma_from.2.1 5 = .ok (.iload_n 1, 1) := by decide +kernel
theorem d_Ma_from_6 : decode M_Ma_from.2.1 6 = .ok (.bipush 64, 2) := by decide +kernel
theorem d_Ma_from_8 : decode M_Ma_from.2.1 8 = .ok (.invokestatic 74, 3) := by decide +kernel
theorem d_Ma_from_11 : decode M_Ma_from.2.1 11 = .ok (.ifCond .ne 7, 3) := by decide +kernel
theorem d_Ma_from_14 : decode M_Ma_from.2.1 14 = .ok (.sipush (-501), 3) := by decide +kernel
theorem d_Ma_from_17 : decode M_Ma_from.2.1 17 = .ok (.ireturn, 1) := by decide +kernel
theorem d_Ma_from_18 : decode M_Ma_from.2.1 18 = .ok (.aload_n 0, 1) := by decide +kernel
theorem d_Ma_from_19 : decode M_Ma_from.2.1 19 = .ok (.getfield 44, 3) := by decide +kernel
theorem d_Ma_from_22 : decode M_Ma_from.2.1 22 = .ok (.iload_n 1, 1) := by decide +kernel
theorem d_Ma_from_23 : decode M_Ma_from.2.1 23 = .ok (.invokevirtual 99, 3) := by decide +kernel
theorem d_Ma_from_26 : decode M_Ma_from.2.1 26 = .ok (.iconst 0, 1) := by decide +kernel
theorem d_Ma_from_27 : decode M_Ma_from.2.1 27 = .ok (.ireturn, 1) := by decide +kernel
theorem d_Ma_to_0 : decode M_Ma_to.2.1 0 = .ok (.iload_n 1, 1) := by decide +kernel
theorem d_Ma_to_1 : decode M_Ma_to.2.1 1 = .ok (.bipush 64, 2) := by decide +kernel
theorem d_Ma_to_3 : decode M_Ma_to.2.1 3 = .ok (.invokestatic 74, 3) := by decide +kernel
theorem d_Ma_to_6 : decode M_Ma_to.2.1 6 = .ok (.ifCond .ne 7, 3) := by decide +kernel
theorem d_Ma_to_9 : decode M_Ma_to.2.1 9 = .ok (.sipush (-501), 3) := by decide +kernel
theorem d_Ma_to_12 : decode M_Ma_to.2.1 12 = .ok (.ireturn, 1) := by decide +kernel
theorem d_Ma_to_13 : decode M_Ma_to.2.1 13 = .ok (.aload_n 0, 1) := by decide +kernel
theorem d_Ma_to_14 : decode M_Ma_to.2.1 14 = .ok (.getfield 44, 3) := by decide +kernel
theorem d_Ma_to_17 : decode M_Ma_to.2.1 17 = .ok (.getfield 103, 3) := by decide +kernel
theorem d_Ma_to_20 : decode M_Ma_to.2.1 20 = .ok (.ifCond .ne 7, 3) := by decide +kernel
theorem d_Ma_to_23 : decode M_Ma_to.2.1 23 = .ok (.sipush (-503), 3) := by decide +kernel
theorem d_Ma_to_26 : decode M_Ma_to.2.1 26 = .ok (.ireturn, 1) := by decide +kernel
theorem d_Ma_to_27 : decode M_Ma_to.2.1 27 = .ok (.aload_n 0, 1) := by decide +kernel
theorem d_Ma_to_28 : decode M_Ma_to.2.1 28 = .ok (.getfield 26, 3) := by decide +kernel
theorem d_Ma_to_31 : decode M_Ma_to.2.1 31 = .ok (.iload_n 1, 1) := by decide +kernel
theorem d_Ma_to_32 : decode M_Ma_to.2.1 32 = .ok (.invokevirtual 107, 3) := by decide +kernel
theorem d_Ma_to_35 : decode M_Ma_to.2.1 35 = .ok (.lstore_n 2, 1) := by decide +kernel
theorem d_Ma_to_36 : decode M_Ma_to.2.1 36 = .ok (.lload_n 2, 1) := by decide +kernel
theorem d_Ma_to_37 : decode M_Ma_to.2.1 37 = .ok (.lconst 0, 1) := by decide +kernel
theorem d_Ma_to_38 : decode M_Ma_to.2.1 38 = .ok (.lcmp, 1) := by decide +kernel
theorem d_Ma_to_39 : decode M_Ma_to.2.1 39 = .ok (.ifCond .ne 7, 3) := by decide +kernel
theorem d_Ma_to_42 : decode M_Ma_to.2.1 42 = .ok (.sipush (-550), 3) := by decide +kernel
theorem d_Ma_to_45 : decode M_Ma_to.2.1 45 = .ok (.ireturn, 1) := by decide +kernel
theorem d_Ma_to_46 : decode M_Ma_to.2.1 46 = .ok (.lload_n 2, 1) := by decide +kernel
theorem d_Ma_to_47 : decode M_Ma_to.2.1 47 = .ok (.aload_n 0, 1) := by decide +kernel
theorem d_Ma_to_48 : decode M_Ma_to.2.1 48 = .ok (.getfield 44, 3) := by decide +kernel
theorem d_Ma_to_51 : decode M_Ma_to.2.1 51 = .ok (.getfield 111, 3) := by decide +kernel
theorem d_Ma_to_54 : decode M_Ma_to.2.1 54 = .ok (.invokevirtual 115, 3) := by decide +kernel
theorem d_Ma_to_57 : decode M_Ma_to.2.1 57 = .ok (.ldc2_w 121, 3) := by decide +kernel
theorem d_Ma_to_60 : decode M_Ma_to.2.1 60 = .ok (.lxor, 1) := by decide +kernel
theorem d_Ma_to_61 : decode M_Ma_to.2.1 61 = .ok (.land, 1) := by decide +kernel
theorem d_Ma_to_62 : decode M_Ma_to.2.1 62 = .ok (.lstore 4, 2) := by decide +kernel
theorem d_Ma_to_64 : decode M_Ma_to.2.1 64 = .ok (.lload 4, 2) := by decide +kernel
theorem d_Ma_to_66 : decode M_Ma_to.2.1 66 = .ok (.invokestatic 123, 3) := by decide +kernel
theorem d_Ma_to_69 : decode M_Ma_to.2.1 69 = .ok (.istore 6, 2) := by decide +kernel
theorem d_Ma_to_71 : decode M_Ma_to.2.1 71 = .ok (.aload_n 0, 1) := by decide +kernel
theorem d_Ma_to_72 : decode M_Ma_to.2.1 72 = .ok (.getfield 44, 3) := by decide +kernel
theorem d_Ma_to_75 : decode M_Ma_to.2.1 75 = .ok (.getfield 111, 3) := by decide +kernel
theorem d_Ma_to_78 : decode M_Ma_to.2.1 78 = .ok (.getfield 129, 3) := by decide +kernel
theorem d_Ma_to_81 : decode M_Ma_to.2.1 81 = .ok (.iload 6, 2) := by decide +kernel
theorem d_Ma_to_83 : decode M_Ma_to.2.1 83 = .ok (.iadd, 1) := by decide +kernel
theorem d_Ma_to_84 : decode M_Ma_to.2.1 84 = .ok (.iconst 4, 1) := by decide +kernel
theorem d_Ma_to_85 : decode M_Ma_to.2.1 85 = .ok (.if_icmp .le 7, 3) := by decide +kernel
theorem d_Ma_to_88 : decode M_Ma_to.2.1 88 = .ok (.sipush (-452), 3) := by decide +kernel
theorem d_Ma_to_91 : decode M_Ma_to.2.1 91 = .ok (.ireturn, 1) := by decide +kernel
theorem d_Ma_to_92 : decode M_Ma_to.2.1 92 = .ok (.aload_n 0, 1) := by decide +kernel
theorem d_Ma_to_93 : decode M_Ma_to.2.1 93 = .ok (.getfield 44, 3) := by decide +kernel
theorem d_Ma_to_96 : decode M_Ma_to.2.1 96 = .ok (.getfield 111, 3) := by decide +kernel
theorem d_Ma_to_99 : decode M_Ma_to.2.1 99 = .ok (.lload 4, 2) := by decide +kernel
theorem d_Ma_to_101 : decode M_Ma_to.2.1 101 = .ok (.invokevirtual 132, 3) := by decide +kernel
theorem d_Ma_to_104 : decode M_Ma_to.2.1 104 = .ok (.iload 6, 2) := by decide +kernel
theorem d_Ma_to_106 : decode M_Ma_to.2.1 106 = .ok (.ireturn, 1) := by decide +kernel
theorem d_Ma_data_0 : decode M_Ma_data.2.1 0 = .ok (.iload_n 1, 1) := by decide +kernel
theorem d_Ma_data_1 : decode M_Ma_data.2.1 1 = .ok (.bipush 41, 2) := by decide +kernel
theorem d_Ma_data_3 : decode M_Ma_data.2.1 3 = .ok (.invokestatic 74, 3) := by decide +kernel
theorem d_Ma_data_6 : decode M_Ma_data.2.1 6 = .ok (.ifCond .ne 7, 3) := by decide +kernel
theorem d_Ma_data_9 : decode M_Ma_data.2.1 9 = .ok (.sipush (-501), 3) := by decide +kernel
theorem d_Ma_data_12 : decode M_Ma_data.2.1 12 = .ok (.ireturn, 1) := by decide +kernel
theorem d_Ma_data_13 : decode M_Ma_data.2.1 13 = .ok (.aload_n 0, 1) := by decide +kernel
theorem d_Ma_data_14 : decode M_Ma_data.2.1 14 = .ok (.getfield 44, 3) := by decide +kernel
theorem d_Ma_data_17 : decode M_Ma_data.2.1 17 = .ok (.getfield 103, 3) := by decide +kernel
theorem d_Ma_data_20 : decode M_Ma_data.2.1 20 = .ok (.ifCond .eq 16, 3) := by decide +kernel
theorem d_Ma_data_23 : decode M_Ma_data.2.1 23 = .ok (.aload_n 0, 1) := by decide +kernel
theorem d_Ma_data_24 : decode M_Ma_data.2.1 24 = .ok (.getfield 44, 3) := by decide +kernel
theorem d_Ma_data_27 : decode M_Ma_data.2.1 27 = .ok (.getfield 111, 3) := by decide +kernel
theorem d_Ma_data_30 : decode M_Ma_data.2.1 30 = .ok (.getfield 129, 3) := by decide +kernel
theorem d_Ma_data_33 : decode M_Ma_data.2.1 33 = .ok (.ifCond .ne 7, 3) := by decide +kernel
theorem d_Ma_data_36 : decode M_Ma_data.2.1 36 = .ok (.sipush (-503), 3) := by decide +kernel
theorem d_Ma_data_39 : decode M_Ma_data.2.1 39 = .ok (.ireturn, 1) := by decide +kernel
theorem d_Ma_data_40 : decode M_Ma_data.2.1 40 = .ok (.iload_n 1, 1) := by decide +kernel
theorem d_Ma_data_41 : decode M_Ma_data.2.1 41 = .ok (.aload_n 0, 1) := by decide +kernel
theorem d_Ma_data_42 : decode M_Ma_data.2.1 42 = .ok (.getfield 44, 3) := by decide +kernel
theorem d_Ma_data_45 : decode M_Ma_data.2.1 45 = .ok (.getfield 111, 3) := by decide +kernel
theorem d_Ma_data_48 : decode M_Ma_data.2.1 48 = .ok (.getfield 129, 3) := by decide +kernel
theorem d_Ma_data_51 : decode M_Ma_data.2.1 51 = .ok (.invokestatic 136, 3) := by decide +kernel
theorem d_Ma_data_54 : decode M_Ma_data.2.1 54 = .ok (.istore_n 2, 1) := by decide +kernel
theorem d_Ma_data_55 : decode M_Ma_data.2.1 55 = .ok (.aload_n 0, 1) := by decide +kernel
theorem d_Ma_data_56 : decode M_Ma_data.2.1 56 = .ok (.getfield 51, 3) := by decide +kernel
theorem d_Ma_data_59 : decode M_Ma_data.2.1 59 = .ok (.getfield 139, 3) := by decide +kernel
theorem d_Ma_data_62 : decode M_Ma_data.2.1 62 = .ok (.bipush 6, 2) := by decide +kernel
theorem d_Ma_data_64 : decode M_Ma_data.2.1 64 = .ok (.if_icmp .ge 17, 3) := by decide +kernel
theorem d_Ma_data_67 : decode M_Ma_data.2.1 67 = .ok (.aload_n 0, 1) := by decide +kernel
theorem d_Ma_data_68 : decode M_Ma_data.2.1 68 = .ok (.getfield 51, 3) := by decide +kernel
theorem d_Ma_data_71 : decode M_Ma_data.2.1 71 = .ok (.invokevirtual 140, 3) := by decide +kernel
theorem d_Ma_data_74 : decode M_Ma_data.2.1 74 = .ok (.iload_n 2, 1) := by decide +kernel
theorem d_Ma_data_75 : decode M_Ma_data.2.1 75 = .ok (.iadd, 1) := by decide +kernel
theorem d_Ma_data_76 : decode M_Ma_data.2.1 76 = .ok (.bipush 60, 2) := by decide +kernel
theorem d_Ma_data_78 : decode M_Ma_data.2.1 78 = .ok (.if_icmp .le 7, 3) := by decide +kernel
theorem d_Ma_data_81 : decode M_Ma_data.2.1 81 = .ok (.sipush (-452), 3) := by decide +kernel
theorem d_Ma_data_84 : decode M_Ma_data.2.1 84 = .ok (.ireturn, 1) := by decide +kernel
theorem d_Ma_data_85 : decode M_Ma_data.2.1 85 = .ok (.aload_n 0, 1) := by decide +kernel
theorem d_Ma_data_86 : decode M_Ma_data.2.1 86 = .ok (.dup, 1) := by decide +kernel
theorem d_Ma_data_87 : decode M_Ma_data.2.1 87 = .ok (.getfield 68, 3) := by decide +kernel
theorem d_Ma_data_90 : decode M_Ma_data.2.1 90 = .ok (.iconst 1, 1) := by decide +kernel
theorem d_Ma_data_91 : decode M_Ma_data.2.1 91 = .ok (.iadd, 1) := by decide +kernel
theorem d_Ma_data_92 : decode M_Ma_data.2.1 92 = .ok (.putfield 68, 3) := by decide +kernel
theorem d_Ma_data_95 : decode M_Ma_data.2.1 95 = .ok (.aload_n 0, 1) := by decide +kernel
theorem d_Ma_data_96 : decode M_Ma_data.2.1 96 = .ok (.getfield 51, 3) := by decide +kernel
theorem d_Ma_data_99 : decode M_Ma_data.2.1 99 = .ok (.invokevirtual 143, 3) := by decide +kernel
theorem d_Ma_data_102 : decode M_Ma_data.2.1 102 = .ok (.astore_n 3, 1) := by decide +kernel
theorem d_Ma_data_103 : decode M_Ma_data.2.1 103 = .ok (.aload_n 3, 1) := by decide +kernel
theorem d_Ma_data_104 : decode M_Ma_data.2.1 104 = .ok (.aload_n 0, 1) := by decide +kernel
theorem d_Ma_data_105 : decode M_Ma_data.2.1 105 = .ok (.getfield 68, 3) := by decide +kernel
theorem d_Ma_data_108 : decode M_Ma_data.2.1 108 = .ok (.iload_n 1, 1) := by decide +kernel
theorem d_Ma_data_109 : decode M_Ma_data.2.1 109 = .ok (.aload_n 0, 1) := by decide +kernel
theorem d_Ma_data_110 : decode M_Ma_data.2.1 110 = .ok (.getfield 44, 3) := by decide +kernel
theorem d_Ma_data_113 : decode M_Ma_data.2.1 113 = .ok (.invokevirtual 147, 3) := by decide +kernel
theorem d_Ma_data_116 : decode M_Ma_data.2.1 116 = .ok (.aload_n 3, 1) := by decide +kernel
theorem d_Ma_data_117 : decode M_Ma_data.2.1 117 = .ok (.aload_n 0, 1) := by decide +kernel
theorem d_Ma_data_118 : decode M_Ma_data.2.1 118 = .ok (.getfield 65, 3) := by decide +kernel
theorem d_Ma_data_121 : decode M_Ma_data.2.1 121 = .ok (.aload_n 0, 1) := by decide +kernel
theorem d_Ma_data_122 : decode M_Ma_data.2.1 122 = .ok (.getfield 13, 3) := by decide +kernel
theorem d_Ma_data_125 : decode M_Ma_data.2.1 125 = .ok (.invokevirtual 153, 3) := by decide +kernel
theorem d_Ma_data_128 : decode M_Ma_data.2.1 128 = .ok (.aload_n 0, 1) := by decide +kernel
theorem d_Ma_data_129 : decode M_Ma_data.2.1 129 = .ok (.getfield 44, 3) := by decide +kernel
theorem d_Ma_data_132 : decode M_Ma_data.2.1 132 = .ok (.iconst 0, 1) := by decide +kernel
theorem d_Ma_data_133 : decode M_Ma_data.2.1 133 = .ok (.putfield 103, 3) := by decide +kernel
theorem d_Ma_data_136 : decode M_Ma_data.2.1 136 = .ok (.aload_n 0, 1) := by decide +kernel
theorem d_Ma_data_137 : decode M_Ma_data.2.1 137 = .ok (.invokevirtual 157, 3) := by decide +kernel
theorem d_Ma_data_140 : decode M_Ma_data.2.1 140 = .ok (.aload_n 0, 1) := by decide +kernel
theorem d_Ma_data_141 : decode M_Ma_data.2.1 141 = .ok (.getfield 68, 3) := by decide +kernel
theorem d_Ma_data_144 : decode M_Ma_data.2.1 144 = .ok (.ireturn, 1) := by decide +kernel
theorem d_Ma_tick_0 : decode M_Ma_tick.2.1 0 = .ok (.iload_n 1, 1) := by decide +kernel
theorem d_Ma_tick_1 : decode M_Ma_tick.2.1 1 = .ok (.aload_n 0, 1) := by decide +kernel
theorem d_Ma_tick_2 : decode M_Ma_tick.2.1 2 = .ok (.getfield 65, 3) := by decide +kernel
theorem d_Ma_tick_5 : decode M_Ma_tick.2.1 5 = .ok (.if_icmp .lt 9, 3) := by decide +kernel
theorem d_Ma_tick_8 : decode M_Ma_tick.2.1 8 = .ok (.iload_n 1, 1) := by decide +kernel
theorem d_Ma_tick_9 : decode M_Ma_tick.2.1 9 = .ok (.ldc 160, 2) := by decide +kernel
theorem d_Ma_tick_11 : decode M_Ma_tick.2.1 11 = .ok (.if_icmp .le 7, 3) := by decide +kernel
theorem d_Ma_tick_14 : decode M_Ma_tick.2.1 14 = .ok (.sipush (-501), 3) := by decide +kernel
theorem d_Ma_tick_17 : decode M_Ma_tick.2.1 17 = .ok (.ireturn, 1) := by decide +kernel
theorem d_Ma_tick_18 : decode M_Ma_tick.2.1 18 = .ok (.aload_n 0, 1) := by decide +kernel
theorem d_Ma_tick_19 : decode M_Ma_tick.2.1 19 = .ok (.iload_n 1, 1) := by decide +kernel
theorem d_Ma_tick_20 : decode M_Ma_tick.2.1 20 = .ok (.putfield 65, 3) := by decide +kernel
theorem d_Ma_tick_23 : decode M_Ma_tick.2.1 23 = .ok (.iconst 0, 1) := by decide +kernel
theorem d_Ma_tick_24 : decode M_Ma_tick.2.1 24 = .ok (.istore_n 2, 1) := by decide +kernel
theorem d_Ma_tick_25 : decode M_Ma_tick.2.1 25 = .ok (.iconst 0, 1) := by decide +kernel
theorem d_Ma_tick_26 : decode M_Ma_tick.2.1 26 = .ok (.istore_n 3, 1) := by decide +kernel
theorem d_Ma_tick_27 : decode M_Ma_tick.2.1 27 = .ok (.iconst 0, 1) := by decide +kernel
theorem d_Ma_tick_28 : decode M_Ma_tick.2.1 28 = .ok (.istore 4, 2) := by decide +kernel
theorem d_Ma_tick_30 : decode M_Ma_tick.2.1 30 = .ok (.iload 4, 2) := by decide +kernel
theorem d_Ma_tick_32 : decode M_Ma_tick.2.1 32 = .ok (.bipush 6, 2) := by decide +kernel
theorem d_Ma_tick_34 : decode M_Ma_tick.2.1 34 = .ok (.if_icmp .ge 88, 3) := by decide +kernel
theorem d_Ma_tick_37 : decode M_Ma_tick.2.1 37 = .ok (.iload_n 3, 1) := by decide +kernel
theorem d_Ma_tick_38 : decode M_Ma_tick.2.1 38 = .ok (.aload_n 0, 1) := by decide +kernel
theorem d_Ma_tick_39 : decode M_Ma_tick.2.1 39 = .ok (.getfield 51, 3) := by decide +kernel
theorem d_Ma_tick_42 : decode M_Ma_tick.2.1 42 = .ok (.getfield 139, 3) := by decide +kernel
theorem d_Ma_tick_45 : decode M_Ma_tick.2.1 45 = .ok (.if_icmp .ge 77, 3) := by decide +kernel
theorem d_Ma_tick_48 : decode M_Ma_tick.2.1 48 = .ok (.aload_n 0, 1) := by decide +kernel
theorem d_Ma_tick_49 : decode M_Ma_tick.2.1 49 = .ok (.getfield 51, 3) := by decide +kernel
theorem d_Ma_tick_52 : decode M_Ma_tick.2.1 52 = .ok (.getfield 161, 3) := by decide +kernel
theorem d_Ma_tick_55 : decode M_Ma_tick.2.1 55 = .ok (.iload_n 3, 1) := by decide +kernel
theorem d_Ma_tick_56 : decode M_Ma_tick.2.1 56 = .ok (.aaload, 1) := by decide +kernel
theorem d_Ma_tick_57 : decode M_Ma_tick.2.1 57 = .ok (.astore 5, 2) := by decide +kernel
theorem d_Ma_tick_59 : decode M_Ma_tick.2.1 59 = .ok (.iconst 1, 1) := by decide +kernel
theorem d_Ma_tick_60 : decode M_Ma_tick.2.1 60 = .ok (.istore 6, 2) := by decide +kernel
theorem d_Ma_tick_62 : decode M_Ma_tick.2.1 62 = .ok (.aload 5, 2) := by decide +kernel
theorem d_Ma_tick_64 : decode M_Ma_tick.2.1 64 = .ok (.getfield 165, 3) := by decide +kernel
theorem d_Ma_tick_67 : decode M_Ma_tick.2.1 67 = .ok (.aload_n 0, 1) := by decide +kernel
theorem d_Ma_tick_68 : decode M_Ma_tick.2.1 68 = .ok (.getfield 65, 3) := by decide +kernel
theorem d_Ma_tick_71 : decode M_Ma_tick.2.1 71 = .ok (.if_icmp .gt 26, 3) := by decide +kernel
theorem d_Ma_tick_74 : decode M_Ma_tick.2.1 74 = .ok (.iload_n 2, 1) := by decide +kernel
theorem d_Ma_tick_75 : decode M_Ma_tick.2.1 75 = .ok (.aload_n 0, 1) := by decide +kernel
theorem d_Ma_tick_76 : decode M_Ma_tick.2.1 76 = .ok (.aload 5, 2) := by decide +kernel
theorem d_Ma_tick_78 : decode M_Ma_tick.2.1 78 = .ok (.invokevirtual 168, 3) := by decide +kernel
theorem d_Ma_tick_81 : decode M_Ma_tick.2.1 81 = .ok (.iadd, 1) := by decide +kernel
theorem d_Ma_tick_82 : decode M_Ma_tick.2.1 82 = .ok (.istore_n 2, 1) := by decide +kernel
theorem d_Ma_tick_83 : decode M_Ma_tick.2.1 83 = .ok (.aload_n 0, 1) := by decide +kernel
theorem d_Ma_tick_84 : decode M_Ma_tick.2.1 84 = .ok (.aload 5, 2) := by decide +kernel
theorem d_Ma_tick_86 : decode M_Ma_tick.2.1 86 = .ok (.invokevirtual 172, 3) := by decide +kernel
theorem d_Ma_tick_89 : decode M_Ma_tick.2.1 89 = .ok (.aload_n 0, 1) := by decide +kernel
theorem d_Ma_tick_90 : decode M_Ma_tick.2.1 90 = .ok (.aload 5, 2) := by decide +kernel
theorem d_Ma_tick_92 : decode M_Ma_tick.2.1 92 = .ok (.invokevirtual 176, 3) := by decide +kernel
theorem d_Ma_tick_95 : decode M_Ma_tick.2.1 95 = .ok (.istore 6, 2) := by decide +kernel
theorem d_Ma_tick_97 : decode M_Ma_tick.2.1 97 = .ok (.iload 6, 2) := by decide +kernel
theorem d_Ma_tick_99 : decode M_Ma_tick.2.1 99 = .ok (.ifCond .eq 9, 3) := by decide +kernel
theorem d_Ma_tick_102 : decode M_Ma_tick.2.1 102 = .ok (.iinc 3 1, 3) := by decide +kernel
theorem d_Ma_tick_105 : decode M_Ma_tick.2.1 105 = .ok (.goto 11, 3) := by decide +kernel
theorem d_Ma_tick_108 : decode M_Ma_tick.2.1 108 = .ok (.aload_n 0, 1) := by decide +kernel
theorem d_Ma_tick_109 : decode M_Ma_tick.2.1 109 = .ok (.getfield 51, 3) := by decide +kernel
theorem d_Ma_tick_112 : decode M_Ma_tick.2.1 112 = .ok (.iload_n 3, 1) := by decide +kernel
theorem d_Ma_tick_113 : decode M_Ma_tick.2.1 113 = .ok (.invokevirtual 180, 3) := by decide +kernel
theorem d_Ma_tick_116 : decode M_Ma_tick.2.1 116 = .ok (.iinc 4 1, 3) := by decide +kernel
theorem d_Ma_tick_119 : decode M_Ma_tick.2.1 119 = .ok (.goto (-89), 3) := by decide +kernel
theorem d_Ma_tick_122 : decode M_Ma_tick.2.1 122 = .ok (.aload_n 0, 1) := by decide +kernel
theorem d_Ma_tick_123 : decode M_Ma_tick.2.1 123 = .ok (.invokevirtual 183, 3) := by decide +kernel
theorem d_Ma_tick_126 : decode M_Ma_tick.2.1 126 = .ok (.iload_n 2, 1) := by decide +kernel
theorem d_Ma_tick_127 : decode M_Ma_tick.2.1 127 = .ok (.ireturn, 1) := by decide +kernel
theorem d_Ma_sync_0 : decode M_Ma_sync.2.1 0 = .ok (.aload_n 0, 1) := by decide +kernel
theorem d_Ma_sync_1 : decode M_Ma_sync.2.1 1 = .ok (.getfield 71, 3) := by decide +kernel
theorem d_Ma_sync_4 : decode M_Ma_sync.2.1 4 = .ok (.istore_n 1, 1) := by decide +kernel
theorem d_Ma_sync_5 : decode M_Ma_sync.2.1 5 = .ok (.aload_n 0, 1) := by decide +kernel
theorem d_Ma_sync_6 : decode M_Ma_sync.2.1 6 = .ok (.invokevirtual 157, 3) := by decide +kernel
theorem d_Ma_sync_9 : decode M_Ma_sync.2.1 9 = .ok (.iload_n 1, 1) := by decide +kernel
theorem d_Ma_sync_10 : decode M_Ma_sync.2.1 10 = .ok (.ireturn, 1) := by decide +kernel
theorem d_Ma_crash_0 : decode M_Ma_crash.2.1 0 = .ok (.aload_n 0, 1) := by decide +kernel
theorem d_Ma_crash_1 : decode M_Ma_crash.2.1 1 = .ok (.getfield 71, 3) := by decide +kernel
theorem d_Ma_crash_4 : decode M_Ma_crash.2.1 4 = .ok (.istore_n 1, 1) := by decide +kernel
theorem d_Ma_crash_5 : decode M_Ma_crash.2.1 5 = .ok (.aload_n 0, 1) := by decide +kernel
theorem d_Ma_crash_6 : decode M_Ma_crash.2.1 6 = .ok (.getfield 51, 3) := by decide +kernel
theorem d_Ma_crash_9 : decode M_Ma_crash.2.1 9 = .ok (.aload_n 0, 1) := by decide +kernel
theorem d_Ma_crash_10 : decode M_Ma_crash.2.1 10 = .ok (.getfield 55, 3) := by decide +kernel
theorem d_Ma_crash_13 : decode M_Ma_crash.2.1 13 = .ok (.invokevirtual 186, 3) := by decide +kernel
theorem d_Ma_crash_16 : decode M_Ma_crash.2.1 16 = .ok (.aload_n 0, 1) := by decide +kernel
theorem d_Ma_crash_17 : decode M_Ma_crash.2.1 17 = .ok (.iconst 0, 1) := by decide +kernel
theorem d_Ma_crash_18 : decode M_Ma_crash.2.1 18 = .ok (.putfield 71, 3) := by decide +kernel
theorem d_Ma_crash_21 : decode M_Ma_crash.2.1 21 = .ok (.aload_n 0, 1) := by decide +kernel
theorem d_Ma_crash_22 : decode M_Ma_crash.2.1 22 = .ok (.getfield 44, 3) := by decide +kernel
theorem d_Ma_crash_25 : decode M_Ma_crash.2.1 25 = .ok (.iconst 0, 1) := by decide +kernel
theorem d_Ma_crash_26 : decode M_Ma_crash.2.1 26 = .ok (.putfield 103, 3) := by decide +kernel
theorem d_Ma_crash_29 : decode M_Ma_crash.2.1 29 = .ok (.iload_n 1, 1) := by decide +kernel
theorem d_Ma_crash_30 : decode M_Ma_crash.2.1 30 = .ok (.ireturn, 1) := by decide +kernel
theorem d_Ma_drop_0 : decode M_Ma_drop.2.1 0 = .ok (.aload_n 0, 1) := by decide +kernel
theorem d_Ma_drop_1 : decode M_Ma_drop.2.1 1 = .ok (.getfield 51, 3) := by decide +kernel
theorem d_Ma_drop_4 : decode M_Ma_drop.2.1 4 = .ok (.iload_n 1, 1) := by decide +kernel
theorem d_Ma_drop_5 : decode M_Ma_drop.2.1 5 = .ok (.invokevirtual 190, 3) := by decide +kernel
theorem d_Ma_drop_8 : decode M_Ma_drop.2.1 8 = .ok (.istore_n 2, 1) := by decide +kernel
theorem d_Ma_drop_9 : decode M_Ma_drop.2.1 9 = .ok (.iload_n 2, 1) := by decide +kernel
theorem d_Ma_drop_10 : decode M_Ma_drop.2.1 10 = .ok (.ifCond .ge 7, 3) := by decide +kernel
theorem d_Ma_drop_13 : decode M_Ma_drop.2.1 13 = .ok (.sipush (-550), 3) := by decide +kernel
theorem d_Ma_drop_16 : decode M_Ma_drop.2.1 16 = .ok (.ireturn, 1) := by decide +kernel
theorem d_Ma_drop_17 : decode M_Ma_drop.2.1 17 = .ok (.aload_n 0, 1) := by decide +kernel
theorem d_Ma_drop_18 : decode M_Ma_drop.2.1 18 = .ok (.getfield 51, 3) := by decide +kernel
theorem d_Ma_drop_21 : decode M_Ma_drop.2.1 21 = .ok (.iload_n 2, 1) := by decide +kernel
theorem d_Ma_drop_22 : decode M_Ma_drop.2.1 22 = .ok (.invokevirtual 180, 3) := by decide +kernel
theorem d_Ma_drop_25 : decode M_Ma_drop.2.1 25 = .ok (.aload_n 0, 1) := by decide +kernel
theorem d_Ma_drop_26 : decode M_Ma_drop.2.1 26 = .ok (.dup, 1) := by decide +kernel
theorem d_Ma_drop_27 : decode M_Ma_drop.2.1 27 = .ok (.getfield 71, 3) := by decide +kernel
theorem d_Ma_drop_30 : decode M_Ma_drop.2.1 30 = .ok (.iconst 1, 1) := by decide +kernel
theorem d_Ma_drop_31 : decode M_Ma_drop.2.1 31 = .ok (.iadd, 1) := by decide +kernel
theorem d_Ma_drop_32 : decode M_Ma_drop.2.1 32 = .ok (.putfield 71, 3) := by decide +kernel
theorem d_Ma_drop_35 : decode M_Ma_drop.2.1 35 = .ok (.aload_n 0, 1) := by decide +kernel
theorem d_Ma_drop_36 : decode M_Ma_drop.2.1 36 = .ok (.invokevirtual 183, 3) := by decide +kernel
theorem d_Ma_drop_39 : decode M_Ma_drop.2.1 39 = .ok (.iconst 1, 1) := by decide +kernel
theorem d_Ma_drop_40 : decode M_Ma_drop.2.1 40 = .ok (.ireturn, 1) := by decide +kernel
theorem d_Ma_hurry_0 : decode M_Ma_hurry.2.1 0 = .ok (.aload_n 0, 1) := by decide +kernel
theorem d_Ma_hurry_1 : decode M_Ma_hurry.2.1 1 = .ok (.getfield 51, 3) := by decide +kernel
theorem d_Ma_hurry_4 : decode M_Ma_hurry.2.1 4 = .ok (.iload_n 1, 1) := by decide +kernel
theorem d_Ma_hurry_5 : decode M_Ma_hurry.2.1 5 = .ok (.invokevirtual 190, 3) := by decide +kernel
theorem d_Ma_hurry_8 : decode M_Ma_hurry.2.1 8 = .ok (.istore_n 2, 1) := by decide +kernel
theorem d_Ma_hurry_9 : decode M_Ma_hurry.2.1 9 = .ok (.iload_n 2, 1) := by decide +kernel
theorem d_Ma_hurry_10 : decode M_Ma_hurry.2.1 10 = .ok (.ifCond .ge 7, 3) := by decide +kernel
theorem d_Ma_hurry_13 : decode M_Ma_hurry.2.1 13 = .ok (.sipush (-550), 3) := by decide +kernel
theorem d_Ma_hurry_16 : decode M_Ma_hurry.2.1 16 = .ok (.ireturn, 1) := by decide +kernel
theorem d_Ma_hurry_17 : decode M_Ma_hurry.2.1 17 = .ok (.aload_n 0, 1) := by decide +kernel
theorem d_Ma_hurry_18 : decode M_Ma_hurry.2.1 18 = .ok (.getfield 51, 3) := by decide +kernel
theorem d_Ma_hurry_21 : decode M_Ma_hurry.2.1 21 = .ok (.getfield 161, 3) := by decide +kernel
theorem d_Ma_hurry_24 : decode M_Ma_hurry.2.1 24 = .ok (.iload_n 2, 1) := by decide +kernel
theorem d_Ma_hurry_25 : decode M_Ma_hurry.2.1 25 = .ok (.aaload, 1) := by decide +kernel
theorem d_Ma_hurry_26 : decode M_Ma_hurry.2.1 26 = .ok (.aload_n 0, 1) := by decide +kernel
theorem d_Ma_hurry_27 : decode M_Ma_hurry.2.1 27 = .ok (.getfield 65, 3) := by decide +kernel
theorem d_Ma_hurry_30 : decode M_Ma_hurry.2.1 30 = .ok (.putfield 165, 3) := by decide +kernel
theorem d_Ma_hurry_33 : decode M_Ma_hurry.2.1 33 = .ok (.aload_n 0, 1) := by decide +kernel
theorem d_Ma_hurry_34 : decode M_Ma_hurry.2.1 34 = .ok (.dup, 1) := by decide +kernel
theorem d_Ma_hurry_35 : decode M_Ma_hurry.2.1 35 = .ok (.getfield 71, 3) := by decide +kernel
theorem d_Ma_hurry_38 : decode M_Ma_hurry.2.1 38 = .ok (.iconst 1, 1) := by decide +kernel
theorem d_Ma_hurry_39 : decode M_Ma_hurry.2.1 39 = .ok (.iadd, 1) := by decide +kernel
theorem d_Ma_hurry_40 : decode M_Ma_hurry.2.1 40 = .ok (.putfield 71, 3) := by decide +kernel
theorem d_Ma_hurry_43 : decode M_Ma_hurry.2.1 43 = .ok (.aload_n 0, 1) := by decide +kernel
theorem d_Ma_hurry_44 : decode M_Ma_hurry.2.1 44 = .ok (.invokevirtual 183, 3) := by decide +kernel
theorem d_Ma_hurry_47 : decode M_Ma_hurry.2.1 47 = .ok (.iconst 1, 1) := by decide +kernel
theorem d_Ma_hurry_48 : decode M_Ma_hurry.2.1 48 = .ok (.ireturn, 1) := by decide +kernel
theorem d_Ma_count_0 : decode M_Ma_count.2.1 0 = .ok (.iload_n 1, 1) := by decide +kernel
theorem d_Ma_count_1 : decode M_Ma_count.2.1 1 = .ok (.tableswitch 107 0 6 #[43, 51, 59, 67, 72, 77, 82], 43) := by decide +kernel
theorem d_Ma_count_44 : decode M_Ma_count.2.1 44 = .ok (.aload_n 0, 1) := by decide +kernel
theorem d_Ma_count_45 : decode M_Ma_count.2.1 45 = .ok (.getfield 51, 3) := by decide +kernel
theorem d_Ma_count_48 : decode M_Ma_count.2.1 48 = .ok (.getfield 139, 3) := by decide +kernel
theorem d_Ma_count_51 : decode M_Ma_count.2.1 51 = .ok (.ireturn, 1) := by decide +kernel
theorem d_Ma_count_52 : decode M_Ma_count.2.1 52 = .ok (.aload_n 0, 1) := by decide +kernel
theorem d_Ma_count_53 : decode M_Ma_count.2.1 53 = .ok (.getfield 51, 3) := by decide +kernel
theorem d_Ma_count_56 : decode M_Ma_count.2.1 56 = .ok (.invokevirtual 140, 3) := by decide +kernel
theorem d_Ma_count_59 : decode M_Ma_count.2.1 59 = .ok (.ireturn, 1) := by decide +kernel
theorem d_Ma_count_60 : decode M_Ma_count.2.1 60 = .ok (.aload_n 0, 1) := by decide +kernel
theorem d_Ma_count_61 : decode M_Ma_count.2.1 61 = .ok (.getfield 51, 3) := by decide +kernel
theorem d_Ma_count_64 : decode M_Ma_count.2.1 64 = .ok (.invokevirtual 193, 3) := by decide +kernel
theorem d_Ma_count_67 : decode M_Ma_count.2.1 67 = .ok (.ireturn, 1) := by decide +kernel
theorem d_Ma_count_68 : decode M_Ma_count.2.1 68 = .ok (.aload_n 0, 1) := by decide +kernel
theorem d_Ma_count_69 : decode M_Ma_count.2.1 69 = .ok (.getfield 71, 3) := by decide +kernel
theorem d_Ma_count_72 : decode M_Ma_count.2.1 72 = .ok (.ireturn, 1) := by decide +kernel
theorem d_Ma_count_73 : decode M_Ma_count.2.1 73 = .ok (.aload_n 0, 1) := by decide +kernel
theorem d_Ma_count_74 : decode M_Ma_count.2.1 74 = .ok (.getfield 65, 3) := by decide +kernel
theorem d_Ma_count_77 : decode M_Ma_count.2.1 77 = .ok (.ireturn, 1) := by decide +kernel
theorem d_Ma_count_78 : decode M_Ma_count.2.1 78 = .ok (.aload_n 0, 1) := by decide +kernel
theorem d_Ma_count_79 : decode M_Ma_count.2.1 79 = .ok (.getfield 68, 3) := by decide +kernel
theorem d_Ma_count_82 : decode M_Ma_count.2.1 82 = .ok (.ireturn, 1) := by decide +kernel
theorem d_Ma_count_83 : decode M_Ma_count.2.1 83 = .ok (.aload_n 0, 1) := by decide +kernel
theorem d_Ma_count_84 : decode M_Ma_count.2.1 84 = .ok (.getfield 44, 3) := by decide +kernel
theorem d_Ma_count_87 : decode M_Ma_count.2.1 87 = .ok (.getfield 103, 3) := by decide +kernel
theorem d_Ma_count_90 : decode M_Ma_count.2.1 90 = .ok (.ifCond .eq 16, 3) := by decide +kernel
theorem d_Ma_count_93 : decode M_Ma_count.2.1 93 = .ok (.aload_n 0, 1) := by decide +kernel
theorem d_Ma_count_94 : decode M_Ma_count.2.1 94 = .ok (.getfield 44, 3) := by decide +kernel
theorem d_Ma_count_97 : decode M_Ma_count.2.1 97 = .ok (.getfield 111, 3) := by decide +kernel
theorem d_Ma_count_100 : decode M_Ma_count.2.1 100 = .ok (.getfield 129, 3) := by decide +kernel
theorem d_Ma_count_103 : decode M_Ma_count.2.1 103 = .ok (.goto 4, 3) := by decide +kernel
theorem d_Ma_count_106 : decode M_Ma_count.2.1 106 = .ok (.iconst (-1), 1) := by decide +kernel
theorem d_Ma_count_107 : decode M_Ma_count.2.1 107 = .ok (.ireturn, 1) := by decide +kernel
theorem d_Ma_count_108 : decode M_Ma_count.2.1 108 = .ok (.sipush (-501), 3) := by decide +kernel
theorem d_Ma_count_111 : decode M_Ma_count.2.1 111 = .ok (.ireturn, 1) := by decide +kernel
theorem d_Ma_message_0 : decode M_Ma_message.2.1 0 = .ok (.iload_n 1, 1) := by decide +kernel
theorem d_Ma_message_1 : decode M_Ma_message.2.1 1 = .ok (.aload_n 0, 1) := by decide +kernel
theorem d_Ma_message_2 : decode M_Ma_message.2.1 2 = .ok (.getfield 51, 3) := by decide +kernel
theorem d_Ma_message_5 : decode M_Ma_message.2.1 5 = .ok (.getfield 139, 3) := by decide +kernel
theorem d_Ma_message_8 : decode M_Ma_message.2.1 8 = .ok (.invokestatic 74, 3) := by decide +kernel
theorem d_Ma_message_11 : decode M_Ma_message.2.1 11 = .ok (.ifCond .eq 18, 3) := by decide +kernel
theorem d_Ma_message_14 : decode M_Ma_message.2.1 14 = .ok (.aload_n 0, 1) := by decide +kernel
theorem d_Ma_message_15 : decode M_Ma_message.2.1 15 = .ok (.getfield 51, 3) := by decide +kernel
theorem d_Ma_message_18 : decode M_Ma_message.2.1 18 = .ok (.getfield 161, 3) := by decide +kernel
theorem d_Ma_message_21 : decode M_Ma_message.2.1 21 = .ok (.iload_n 1, 1) := by decide +kernel
theorem d_Ma_message_22 : decode M_Ma_message.2.1 22 = .ok (.aaload, 1) := by decide +kernel
theorem d_Ma_message_23 : decode M_Ma_message.2.1 23 = .ok (.getfield 196, 3) := by decide +kernel
theorem d_Ma_message_26 : decode M_Ma_message.2.1 26 = .ok (.goto 4, 3) := by decide +kernel
theorem d_Ma_message_29 : decode M_Ma_message.2.1 29 = .ok (.iconst 0, 1) := by decide +kernel
theorem d_Ma_message_30 : decode M_Ma_message.2.1 30 = .ok (.ireturn, 1) := by decide +kernel
theorem d_Ma_status_0 : decode M_Ma_status.2.1 0 = .ok (.aload_n 0, 1) := by decide +kernel
theorem d_Ma_status_1 : decode M_Ma_status.2.1 1 = .ok (.getfield 51, 3) := by decide +kernel
theorem d_Ma_status_4 : decode M_Ma_status.2.1 4 = .ok (.iload_n 1, 1) := by decide +kernel
theorem d_Ma_status_5 : decode M_Ma_status.2.1 5 = .ok (.invokevirtual 190, 3) := by decide +kernel
theorem d_Ma_status_8 : decode M_Ma_status.2.1 8 = .ok (.istore_n 3, 1) := by decide +kernel
theorem d_Ma_status_9 : decode M_Ma_status.2.1 9 = .ok (.iload_n 3, 1) := by decide +kernel
theorem d_Ma_status_10 : decode M_Ma_status.2.1 10 = .ok (.ifCond .ge 7, 3) := by decide +kernel
theorem d_Ma_status_13 : decode M_Ma_status.2.1 13 = .ok (.iconst 0, 1) := by decide +kernel
theorem d_Ma_status_14 : decode M_Ma_status.2.1 14 = .ok (.goto 19, 3) := by decide +kernel
theorem d_Ma_status_17 : decode M_Ma_status.2.1 17 = .ok (.aload_n 0, 1) := by decide +kernel
theorem d_Ma_status_18 : decode M_Ma_status.2.1 18 = .ok (.getfield 51, 3) := by decide +kernel
theorem d_Ma_status_21 : decode M_Ma_status.2.1 21 = .ok (.getfield 161, 3) := by decide +kernel
theorem d_Ma_status_24 : decode M_Ma_status.2.1 24 = .ok (.iload_n 3, 1) := by decide +kernel
theorem d_Ma_status_25 : decode M_Ma_status.2.1 25 = .ok (.aaload, 1) := by decide +kernel
theorem d_Ma_status_26 : decode M_Ma_status.2.1 26 = .ok (.getfield 199, 3) := by decide +kernel
theorem d_Ma_status_29 : decode M_Ma_status.2.1 29 = .ok (.iload_n 2, 1) := by decide +kernel
theorem d_Ma_status_30 : decode M_Ma_status.2.1 30 = .ok (.invokevirtual 200, 3) := by decide +kernel
theorem d_Ma_status_33 : decode M_Ma_status.2.1 33 = .ok (.ireturn, 1) := by decide +kernel
theorem d_Ma_sender_0 : decode M_Ma_sender.2.1 0 = .ok (.aload_n 0, 1) := by decide +kernel
theorem d_Ma_sender_1 : decode M_Ma_sender.2.1 1 = .ok (.getfield 51, 3) := by decide +kernel
theorem d_Ma_sender_4 : decode M_Ma_sender.2.1 4 = .ok (.iload_n 1, 1) := by decide +kernel
theorem d_Ma_sender_5 : decode M_Ma_sender.2.1 5 = .ok (.invokevirtual 190, 3) := by decide +kernel
theorem d_Ma_sender_8 : decode M_Ma_sender.2.1 8 = .ok (.istore_n 2, 1) := by decide +kernel
theorem d_Ma_sender_9 : decode M_Ma_sender.2.1 9 = .ok (.iload_n 2, 1) := by decide +kernel
theorem d_Ma_sender_10 : decode M_Ma_sender.2.1 10 = .ok (.ifCond .ge 8, 3) := by decide +kernel
theorem d_Ma_sender_13 : decode M_Ma_sender.2.1 13 = .ok (.bipush (-2), 2) := by decide +kernel
theorem d_Ma_sender_15 : decode M_Ma_sender.2.1 15 = .ok (.goto 15, 3) := by decide +kernel
theorem d_Ma_sender_18 : decode M_Ma_sender.2.1 18 = .ok (.aload_n 0, 1) := by decide +kernel
theorem d_Ma_sender_19 : decode M_Ma_sender.2.1 19 = .ok (.getfield 51, 3) := by decide +kernel
theorem d_Ma_sender_22 : decode M_Ma_sender.2.1 22 = .ok (.getfield 161, 3) := by decide +kernel
theorem d_Ma_sender_25 : decode M_Ma_sender.2.1 25 = .ok (.iload_n 2, 1) := by decide +kernel
theorem d_Ma_sender_26 : decode M_Ma_sender.2.1 26 = .ok (.aaload, 1) := by decide +kernel
theorem d_Ma_sender_27 : decode M_Ma_sender.2.1 27 = .ok (.getfield 203, 3) := by decide +kernel
theorem d_Ma_sender_30 : decode M_Ma_sender.2.1 30 = .ok (.ireturn, 1) := by decide +kernel
theorem d_Ma_due_0 : decode M_Ma_due.2.1 0 = .ok (.aload_n 0, 1) := by decide +kernel
theorem d_Ma_due_1 : decode M_Ma_due.2.1 1 = .ok (.getfield 51, 3) := by decide +kernel
theorem d_Ma_due_4 : decode M_Ma_due.2.1 4 = .ok (.iload_n 1, 1) := by decide +kernel
theorem d_Ma_due_5 : decode M_Ma_due.2.1 5 = .ok (.invokevirtual 190, 3) := by decide +kernel
theorem d_Ma_due_8 : decode M_Ma_due.2.1 8 = .ok (.istore_n 2, 1) := by decide +kernel
theorem d_Ma_due_9 : decode M_Ma_due.2.1 9 = .ok (.iload_n 2, 1) := by decide +kernel
theorem d_Ma_due_10 : decode M_Ma_due.2.1 10 = .ok (.ifCond .ge 7, 3) := by decide +kernel
theorem d_Ma_due_13 : decode M_Ma_due.2.1 13 = .ok (.iconst (-1), 1) := by decide +kernel
theorem d_Ma_due_14 : decode M_Ma_due.2.1 14 = .ok (.goto 15, 3) := by decide +kernel
theorem d_Ma_due_17 : decode M_Ma_due.2.1 17 = .ok (.aload_n 0, 1) := by decide +kernel
theorem d_Ma_due_18 : decode M_Ma_due.2.1 18 = .ok (.getfield 51, 3) := by decide +kernel
theorem d_Ma_due_21 : decode M_Ma_due.2.1 21 = .ok (.getfield 161, 3) := by decide +kernel
theorem d_Ma_due_24 : decode M_Ma_due.2.1 24 = .ok (.iload_n 2, 1) := by decide +kernel
theorem d_Ma_due_25 : decode M_Ma_due.2.1 25 = .ok (.aaload, 1) := by decide +kernel
theorem d_Ma_due_26 : decode M_Ma_due.2.1 26 = .ok (.getfield 165, 3) := by decide +kernel
theorem d_Ma_due_29 : decode M_Ma_due.2.1 29 = .ok (.ireturn, 1) := by decide +kernel
theorem d_Ma_received_0 : decode M_Ma_received.2.1 0 = .ok (.iload_n 1, 1) := by decide +kernel
theorem d_Ma_received_1 : decode M_Ma_received.2.1 1 = .ok (.iload_n 2, 1) := by decide +kernel
theorem d_Ma_received_2 : decode M_Ma_received.2.1 2 = .ok (.iconst 3, 1) := by decide +kernel
theorem d_Ma_received_3 : decode M_Ma_received.2.1 3 = .ok (.if_icmp .ne 8, 3) := by decide +kernel
theorem d_Ma_received_6 : decode M_Ma_received.2.1 6 = .ok (.bipush 8, 2) := by decide +kernel
theorem d_Ma_received_8 : decode M_Ma_received.2.1 8 = .ok (.goto 5, 3) := by decide +kernel
theorem d_Ma_received_11 : decode M_Ma_received.2.1 11 = .ok (.bipush 64, 2) := by decide +kernel
theorem d_Ma_received_13 : decode M_Ma_received.2.1 13 = .ok (.invokestatic 74, 3) := by decide +kernel
theorem d_Ma_received_16 : decode M_Ma_received.2.1 16 = .ok (.ifCond .ne 7, 3) := by decide +kernel
theorem d_Ma_received_19 : decode M_Ma_received.2.1 19 = .ok (.sipush (-501), 3) := by decide +kernel
theorem d_Ma_received_22 : decode M_Ma_received.2.1 22 = .ok (.ireturn, 1) := by decide +kernel
theorem d_Ma_received_23 : decode M_Ma_received.2.1 23 = .ok (.iload_n 2, 1) := by decide +kernel
theorem d_Ma_received_24 : decode M_Ma_received.2.1 24 = .ok (.tableswitch 72 0 3 #[32, 42, 52, 62], 32) := by decide +kernel
theorem d_Ma_received_56 : decode M_Ma_received.2.1 56 = .ok (.aload_n 0, 1) := by decide +kernel
theorem d_Ma_received_57 : decode M_Ma_received.2.1 57 = .ok (.getfield 61, 3) := by decide +kernel
theorem d_Ma_received_60 : decode M_Ma_received.2.1 60 = .ok (.getfield 206, 3) := by decide +kernel
theorem d_Ma_received_63 : decode M_Ma_received.2.1 63 = .ok (.iload_n 1, 1) := by decide +kernel
theorem d_Ma_received_64 : decode M_Ma_received.2.1 64 = .ok (.iaload, 1) := by decide +kernel
theorem d_Ma_received_65 : decode M_Ma_received.2.1 65 = .ok (.ireturn, 1) := by decide +kernel
theorem d_Ma_received_66 : decode M_Ma_received.2.1 66 = .ok (.aload_n 0, 1) := by decide +kernel
theorem d_Ma_received_67 : decode M_Ma_received.2.1 67 = .ok (.getfield 61, 3) := by decide +kernel
theorem d_Ma_received_70 : decode M_Ma_received.2.1 70 = .ok (.getfield 209, 3) := by decide +kernel
theorem d_Ma_received_73 : decode M_Ma_received.2.1 73 = .ok (.iload_n 1, 1) := by decide +kernel
theorem d_Ma_received_74 : decode M_Ma_received.2.1 74 = .ok (.iaload, 1) := by decide +kernel
theorem d_Ma_received_75 : decode M_Ma_received.2.1 75 = .ok (.ireturn, 1) := by decide +kernel
theorem d_Ma_received_76 : decode M_Ma_received.2.1 76 = .ok (.aload_n 0, 1) := by decide +kernel
theorem d_Ma_received_77 : decode M_Ma_received.2.1 77 = .ok (.getfield 61, 3) := by decide +kernel
theorem d_Ma_received_80 : decode M_Ma_received.2.1 80 = .ok (.getfield 212, 3) := by decide +kernel
theorem d_Ma_received_83 : decode M_Ma_received.2.1 83 = .ok (.iload_n 1, 1) := by decide +kernel
theorem d_Ma_received_84 : decode M_Ma_received.2.1 84 = .ok (.iaload, 1) := by decide +kernel
theorem d_Ma_received_85 : decode M_Ma_received.2.1 85 = .ok (.ireturn, 1) := by decide +kernel
theorem d_Ma_received_86 : decode M_Ma_received.2.1 86 = .ok (.aload_n 0, 1) := by decide +kernel
theorem d_Ma_received_87 : decode M_Ma_received.2.1 87 = .ok (.getfield 61, 3) := by decide +kernel
theorem d_Ma_received_90 : decode M_Ma_received.2.1 90 = .ok (.getfield 215, 3) := by decide +kernel
theorem d_Ma_received_93 : decode M_Ma_received.2.1 93 = .ok (.iload_n 1, 1) := by decide +kernel
theorem d_Ma_received_94 : decode M_Ma_received.2.1 94 = .ok (.iaload, 1) := by decide +kernel
theorem d_Ma_received_95 : decode M_Ma_received.2.1 95 = .ok (.ireturn, 1) := by decide +kernel
theorem d_Ma_received_96 : decode M_Ma_received.2.1 96 = .ok (.sipush (-501), 3) := by decide +kernel
theorem d_Ma_received_99 : decode M_Ma_received.2.1 99 = .ok (.ireturn, 1) := by decide +kernel
theorem d_Ma_clamp_0 : decode M_Ma_clamp.2.1 0 = .ok (.iload_n 1, 1) := by decide +kernel
theorem d_Ma_clamp_1 : decode M_Ma_clamp.2.1 1 = .ok (.iload_n 0, 1) := by decide +kernel
theorem d_Ma_clamp_2 : decode M_Ma_clamp.2.1 2 = .ok (.iload_n 2, 1) := by decide +kernel
theorem d_Ma_clamp_3 : decode M_Ma_clamp.2.1 3 = .ok (.invokestatic 218, 3) := by decide +kernel
theorem d_Ma_clamp_6 : decode M_Ma_clamp.2.1 6 = .ok (.invokestatic 223, 3) := by decide +kernel
theorem d_Ma_clamp_9 : decode M_Ma_clamp.2.1 9 = .ok (.ireturn, 1) := by decide +kernel
theorem d_Ma_isBelow_0 : decode M_Ma_isBelow.2.1 0 = .ok (.iload_n 0, 1) := by decide +kernel
theorem d_Ma_isBelow_1 : decode M_Ma_isBelow.2.1 1 = .ok (.ifCond .lt 12, 3) := by decide +kernel
theorem d_Ma_isBelow_4 : decode M_Ma_isBelow.2.1 4 = .ok (.iload_n 0, 1) := by decide +kernel
theorem d_Ma_isBelow_5 : decode M_Ma_isBelow.2.1 5 = .ok (.iload_n 1, 1) := by decide +kernel
theorem d_Ma_isBelow_6 : decode M_Ma_isBelow.2.1 6 = .ok (.if_icmp .ge 7, 3) := by decide +kernel
theorem d_Ma_isBelow_9 : decode M_Ma_isBelow.2.1 9 = .ok (.iconst 1, 1) := by decide +kernel
theorem d_Ma_isBelow_10 : decode M_Ma_isBelow.2.1 10 = .ok (.goto 4, 3) := by decide +kernel
theorem d_Ma_isBelow_13 : decode M_Ma_isBelow.2.1 13 = .ok (.iconst 0, 1) := by decide +kernel
theorem d_Ma_isBelow_14 : decode M_Ma_isBelow.2.1 14 = .ok (.ireturn, 1) := by decide +kernel
theorem d_Ma_isForeign_0 : decode M_Ma_isForeign.2.1 0 = .ok (.iload_n 0, 1) := by decide +kernel
theorem d_Ma_isForeign_1 : decode M_Ma_isForeign.2.1 1 = .ok (.ifCond .eq 16, 3) := by decide +kernel
theorem d_Ma_isForeign_4 : decode M_Ma_isForeign.2.1 4 = .ok (.iload_n 0, 1) := by decide +kernel
theorem d_Ma_isForeign_5 : decode M_Ma_isForeign.2.1 5 = .ok (.bipush 8, 2) := by decide +kernel
theorem d_Ma_isForeign_7 : decode M_Ma_isForeign.2.1 7 = .ok (.invokestatic 74, 3) := by decide +kernel
theorem d_Ma_isForeign_10 : decode M_Ma_isForeign.2.1 10 = .ok (.ifCond .eq 7, 3) := by decide +kernel
theorem d_Ma_isForeign_13 : decode M_Ma_isForeign.2.1 13 = .ok (.iconst 1, 1) := by decide +kernel
theorem d_Ma_isForeign_14 : decode M_Ma_isForeign.2.1 14 = .ok (.goto 4, 3) := by decide +kernel
theorem d_Ma_isForeign_17 : decode M_Ma_isForeign.2.1 17 = .ok (.iconst 0, 1) := by decide +kernel
theorem d_Ma_isForeign_18 : decode M_Ma_isForeign.2.1 18 = .ok (.ireturn, 1) := by decide +kernel
theorem d_Ma_costOf_0 : decode M_Ma_costOf.2.1 0 = .ok (.iload_n 0, 1) := by decide +kernel
theorem d_Ma_costOf_1 : decode M_Ma_costOf.2.1 1 = .ok (.iload_n 1, 1) := by decide +kernel
theorem d_Ma_costOf_2 : decode M_Ma_costOf.2.1 2 = .ok (.iadd, 1) := by decide +kernel
theorem d_Ma_costOf_3 : decode M_Ma_costOf.2.1 3 = .ok (.iconst 1, 1) := by decide +kernel
theorem d_Ma_costOf_4 : decode M_Ma_costOf.2.1 4 = .ok (.iadd, 1) := by decide +kernel
theorem d_Ma_costOf_5 : decode M_Ma_costOf.2.1 5 = .ok (.ireturn, 1) := by decide +kernel
theorem d_Ma_tryRecipients_0 : decode M_Ma_tryRecipients.2.1 0 = .ok (.aload_n 1, 1) := by decide +kernel
theorem d_Ma_tryRecipients_1 : decode M_Ma_tryRecipients.2.1 1 = .ok (.getfield 199, 3) := by decide +kernel
theorem d_Ma_tryRecipients_4 : decode M_Ma_tryRecipients.2.1 4 = .ok (.astore_n 2, 1) := by decide +kernel
theorem d_Ma_tryRecipients_5 : decode M_Ma_tryRecipients.2.1 5 = .ok (.iconst 0, 1) := by decide +kernel
theorem d_Ma_tryRecipients_6 : decode M_Ma_tryRecipients.2.1 6 = .ok (.istore_n 3, 1) := by decide +kernel
theorem d_Ma_tryRecipients_7 : decode M_Ma_tryRecipients.2.1 7 = .ok (.iconst 0, 1) := by decide +kernel
theorem d_Ma_tryRecipients_8 : decode M_Ma_tryRecipients.2.1 8 = .ok (.istore 4, 2) := by decide +kernel
theorem d_Ma_tryRecipients_10 : decode M_Ma_tryRecipients.2.1 10 = .ok (.iload 4, 2) := by decide +kernel
theorem d_Ma_tryRecipients_12 : decode M_Ma_tryRecipients.2.1 12 = .ok (.aload_n 2, 1) := by decide +kernel
theorem d_Ma_tryRecipients_13 : decode M_Ma_tryRecipients.2.1 13 = .ok (.getfield 129, 3) := by decide +kernel
theorem d_Ma_tryRecipients_16 : decode M_Ma_tryRecipients.2.1 16 = .ok (.if_icmp .ge 81, 3) := by decide +kernel
theorem d_Ma_tryRecipients_19 : decode M_Ma_tryRecipients.2.1 19 = .ok (.aload_n 2, 1) := by decide +kernel
theorem d_Ma_tryRecipients_20 : decode M_Ma_tryRecipients.2.1 20 = .ok (.getfield 226, 3) := by decide +kernel
theorem d_Ma_tryRecipients_23 : decode M_Ma_tryRecipients.2.1 23 = .ok (.iload 4, 2) := by decide +kernel
theorem d_Ma_tryRecipients_25 : decode M_Ma_tryRecipients.2.1 25 = .ok (.iaload, 1) := by decide +kernel
theorem d_Ma_tryRecipients_26 : decode M_Ma_tryRecipients.2.1 26 = .ok (.iconst 1, 1) := by decide +kernel
theorem d_Ma_tryRecipients_27 : decode M_Ma_tryRecipients.2.1 27 = .ok (.if_icmp .ne 64, 3) := by decide +kernel
theorem d_Ma_tryRecipients_30 : decode M_Ma_tryRecipients.2.1 30 = .ok (.aload_n 2, 1) := by decide +kernel
theorem d_Ma_tryRecipients_31 : decode M_Ma_tryRecipients.2.1 31 = .ok (.getfield 229, 3) := by decide +kernel
theorem d_Ma_tryRecipients_34 : decode M_Ma_tryRecipients.2.1 34 = .ok (.iload 4, 2) := by decide +kernel
theorem d_Ma_tryRecipients_36 : decode M_Ma_tryRecipients.2.1 36 = .ok (.iaload, 1) := by decide +kernel
theorem d_Ma_tryRecipients_37 : decode M_Ma_tryRecipients.2.1 37 = .ok (.istore 5, 2) := by decide +kernel
theorem d_Ma_tryRecipients_39 : decode M_Ma_tryRecipients.2.1 39 = .ok (.aload_n 0, 1) := by decide +kernel
theorem d_Ma_tryRecipients_40 : decode M_Ma_tryRecipients.2.1 40 = .ok (.iload 5, 2) := by decide +kernel
theorem d_Ma_tryRecipients_42 : decode M_Ma_tryRecipients.2.1 42 = .ok (.invokevirtual 232, 3) := by decide +kernel
theorem d_Ma_tryRecipients_45 : decode M_Ma_tryRecipients.2.1 45 = .ok (.istore 6, 2) := by decide +kernel
theorem d_Ma_tryRecipients_47 : decode M_Ma_tryRecipients.2.1 47 = .ok (.aload_n 2, 1) := by decide +kernel
theorem d_Ma_tryRecipients_48 : decode M_Ma_tryRecipients.2.1 48 = .ok (.getfield 226, 3) := by decide +kernel
theorem d_Ma_tryRecipients_51 : decode M_Ma_tryRecipients.2.1 51 = .ok (.iload 4, 2) := by decide +kernel
theorem d_Ma_tryRecipients_53 : decode M_Ma_tryRecipients.2.1 53 = .ok (.iload 6, 2) := by decide +kernel
theorem d_Ma_tryRecipients_55 : decode M_Ma_tryRecipients.2.1 55 = .ok (.iastore, 1) := by decide +kernel
theorem d_Ma_tryRecipients_56 : decode M_Ma_tryRecipients.2.1 56 = .ok (.iload 6, 2) := by decide +kernel
theorem d_Ma_tryRecipients_58 : decode M_Ma_tryRecipients.2.1 58 = .ok (.iconst 1, 1) := by decide +kernel
theorem d_Ma_tryRecipients_59 : decode M_Ma_tryRecipients.2.1 59 = .ok (.if_icmp .eq 13, 3) := by decide +kernel
theorem d_Ma_tryRecipients_62 : decode M_Ma_tryRecipients.2.1 62 = .ok (.aload_n 0, 1) := by decide +kernel
theorem d_Ma_tryRecipients_63 : decode M_Ma_tryRecipients.2.1 63 = .ok (.dup, 1) := by decide +kernel
theorem d_Ma_tryRecipients_64 : decode M_Ma_tryRecipients.2.1 64 = .ok (.getfield 71, 3) := by decide +kernel
theorem d_Ma_tryRecipients_67 : decode M_Ma_tryRecipients.2.1 67 = .ok (.iconst 1, 1) := by decide +kernel
theorem d_Ma_tryRecipients_68 : decode M_Ma_tryRecipients.2.1 68 = .ok (.iadd, 1) := by decide +kernel
theorem d_Ma_tryRecipients_69 : decode M_Ma_tryRecipients.2.1 69 = .ok (.putfield 71, 3) := by decide +kernel
theorem d_Ma_tryRecipients_72 : decode M_Ma_tryRecipients.2.1 72 = .ok (.iload 6, 2) := by decide +kernel
theorem d_Ma_tryRecipients_74 : decode M_Ma_tryRecipients.2.1 74 = .ok (.iconst 2, 1) := by decide +kernel
theorem d_Ma_tryRecipients_75 : decode M_Ma_tryRecipients.2.1 75 = .ok (.if_icmp .ne 16, 3) := by decide +kernel
theorem d_Ma_tryRecipients_78 : decode M_Ma_tryRecipients.2.1 78 = .ok (.aload_n 0, 1) := by decide +kernel
theorem d_Ma_tryRecipients_79 : decode M_Ma_tryRecipients.2.1 79 = .ok (.getfield 61, 3) := by decide +kernel
theorem d_Ma_tryRecipients_82 : decode M_Ma_tryRecipients.2.1 82 = .ok (.iload 5, 2) := by decide +kernel
theorem d_Ma_tryRecipients_84 : decode M_Ma_tryRecipients.2.1 84 = .ok (.aload_n 1, 1) := by decide +kernel
theorem d_Ma_tryRecipients_85 : decode M_Ma_tryRecipients.2.1 85 = .ok (.invokevirtual 235, 3) := by decide +kernel
theorem d_Ma_tryRecipients_88 : decode M_Ma_tryRecipients.2.1 88 = .ok (.iinc 3 1, 3) := by decide +kernel
theorem d_Ma_tryRecipients_91 : decode M_Ma_tryRecipients.2.1 91 = .ok (.iinc 4 1, 3) := by decide +kernel
theorem d_Ma_tryRecipients_94 : decode M_Ma_tryRecipients.2.1 94 = .ok (.goto (-84), 3) := by decide +kernel
theorem d_Ma_tryRecipients_97 : decode M_Ma_tryRecipients.2.1 97 = .ok (.iload_n 3, 1) := by decide +kernel
theorem d_Ma_tryRecipients_98 : decode M_Ma_tryRecipients.2.1 98 = .ok (.ireturn, 1) := by decide +kernel
theorem d_Ma_carry_0 : decode M_Ma_carry.2.1 0 = .ok (.iload_n 1, 1) := by decide +kernel
theorem d_Ma_carry_1 : decode M_Ma_carry.2.1 1 = .ok (.bipush 8, 2) := by decide +kernel
theorem d_Ma_carry_3 : decode M_Ma_carry.2.1 3 = .ok (.idiv, 1) := by decide +kernel
theorem d_Ma_carry_4 : decode M_Ma_carry.2.1 4 = .ok (.istore_n 2, 1) := by decide +kernel
theorem d_Ma_carry_5 : decode M_Ma_carry.2.1 5 = .ok (.iload_n 2, 1) := by decide +kernel
theorem d_Ma_carry_6 : decode M_Ma_carry.2.1 6 = .ok (.ifCond .ne 5, 3) := by decide +kernel
theorem d_Ma_carry_9 : decode M_Ma_carry.2.1 9 = .ok (.iconst 2, 1) := by decide +kernel
theorem d_Ma_carry_10 : decode M_Ma_carry.2.1 10 = .ok (.ireturn, 1) := by decide +kernel
theorem d_Ma_carry_11 : decode M_Ma_carry.2.1 11 = .ok (.aload_n 0, 1) := by decide +kernel
theorem d_Ma_carry_12 : decode M_Ma_carry.2.1 12 = .ok (.getfield 32, 3) := by decide +kernel
theorem d_Ma_carry_15 : decode M_Ma_carry.2.1 15 = .ok (.iload_n 2, 1) := by decide +kernel
theorem d_Ma_carry_16 : decode M_Ma_carry.2.1 16 = .ok (.aaload, 1) := by decide +kernel
theorem d_Ma_carry_17 : decode M_Ma_carry.2.1 17 = .ok (.astore_n 3, 1) := by decide +kernel
theorem d_Ma_carry_18 : decode M_Ma_carry.2.1 18 = .ok (.aload_n 3, 1) := by decide +kernel
theorem d_Ma_carry_19 : decode M_Ma_carry.2.1 19 = .ok (.getfield 239, 3) := by decide +kernel
theorem d_Ma_carry_22 : decode M_Ma_carry.2.1 22 = .ok (.ifCond .ne 5, 3) := by decide +kernel
theorem d_Ma_carry_25 : decode M_Ma_carry.2.1 25 = .ok (.iconst 3, 1) := by decide +kernel
theorem d_Ma_carry_26 : decode M_Ma_carry.2.1 26 = .ok (.ireturn, 1) := by decide +kernel
theorem d_Ma_carry_27 : decode M_Ma_carry.2.1 27 = .ok (.iconst 0, 1) := by decide +kernel
theorem d_Ma_carry_28 : decode M_Ma_carry.2.1 28 = .ok (.istore 4, 2) := by decide +kernel
theorem d_Ma_carry_30 : decode M_Ma_carry.2.1 30 = .ok (.iload 4, 2) := by decide +kernel
theorem d_Ma_carry_32 : decode M_Ma_carry.2.1 32 = .ok (.aload_n 3, 1) := by decide +kernel
theorem d_Ma_carry_33 : decode M_Ma_carry.2.1 33 = .ok (.getfield 239, 3) := by decide +kernel
theorem d_Ma_carry_36 : decode M_Ma_carry.2.1 36 = .ok (.if_icmp .ge 57, 3) := by decide +kernel
theorem d_Ma_carry_39 : decode M_Ma_carry.2.1 39 = .ok (.aload_n 3, 1) := by decide +kernel
theorem d_Ma_carry_40 : decode M_Ma_carry.2.1 40 = .ok (.getfield 240, 3) := by decide +kernel
theorem d_Ma_carry_43 : decode M_Ma_carry.2.1 43 = .ok (.iload 4, 2) := by decide +kernel
theorem d_Ma_carry_45 : decode M_Ma_carry.2.1 45 = .ok (.iaload, 1) := by decide +kernel
theorem d_Ma_carry_46 : decode M_Ma_carry.2.1 46 = .ok (.istore 5, 2) := by decide +kernel
theorem d_Ma_carry_48 : decode M_Ma_carry.2.1 48 = .ok (.aload_n 0, 1) := by decide +kernel
theorem d_Ma_carry_49 : decode M_Ma_carry.2.1 49 = .ok (.getfield 37, 3) := by decide +kernel
theorem d_Ma_carry_52 : decode M_Ma_carry.2.1 52 = .ok (.iload 5, 2) := by decide +kernel
theorem d_Ma_carry_54 : decode M_Ma_carry.2.1 54 = .ok (.iaload, 1) := by decide +kernel
theorem d_Ma_carry_55 : decode M_Ma_carry.2.1 55 = .ok (.ifCond .ne 19, 3) := by decide +kernel
theorem d_Ma_carry_58 : decode M_Ma_carry.2.1 58 = .ok (.aload_n 0, 1) := by decide +kernel
theorem d_Ma_carry_59 : decode M_Ma_carry.2.1 59 = .ok (.getfield 61, 3) := by decide +kernel
theorem d_Ma_carry_62 : decode M_Ma_carry.2.1 62 = .ok (.getfield 215, 3) := by decide +kernel
theorem d_Ma_carry_65 : decode M_Ma_carry.2.1 65 = .ok (.iload 5, 2) := by decide +kernel
theorem d_Ma_carry_67 : decode M_Ma_carry.2.1 67 = .ok (.dup2, 1) := by decide +kernel
theorem d_Ma_carry_68 : decode M_Ma_carry.2.1 68 = .ok (.iaload, 1) := by decide +kernel
theorem d_Ma_carry_69 : decode M_Ma_carry.2.1 69 = .ok (.iconst 1, 1) := by decide +kernel
theorem d_Ma_carry_70 : decode M_Ma_carry.2.1 70 = .ok (.iadd, 1) := by decide +kernel
theorem d_Ma_carry_71 : decode M_Ma_carry.2.1 71 = .ok (.iastore, 1) := by decide +kernel
theorem d_Ma_carry_72 : decode M_Ma_carry.2.1 72 = .ok (.iconst 2, 1) := by decide +kernel
theorem d_Ma_carry_73 : decode M_Ma_carry.2.1 73 = .ok (.ireturn, 1) := by decide +kernel
theorem d_Ma_carry_74 : decode M_Ma_carry.2.1 74 = .ok (.aload_n 0, 1) := by decide +kernel
theorem d_Ma_carry_75 : decode M_Ma_carry.2.1 75 = .ok (.getfield 37, 3) := by decide +kernel
theorem d_Ma_carry_78 : decode M_Ma_carry.2.1 78 = .ok (.iload 5, 2) := by decide +kernel
theorem d_Ma_carry_80 : decode M_Ma_carry.2.1 80 = .ok (.iaload, 1) := by decide +kernel
theorem d_Ma_carry_81 : decode M_Ma_carry.2.1 81 = .ok (.iconst 2, 1) := by decide +kernel
theorem d_Ma_carry_82 : decode M_Ma_carry.2.1 82 = .ok (.if_icmp .ne 5, 3) := by decide +kernel
theorem d_Ma_carry_85 : decode M_Ma_carry.2.1 85 = .ok (.iconst 3, 1) := by decide +kernel
theorem d_Ma_carry_86 : decode M_Ma_carry.2.1 86 = .ok (.ireturn, 1) := by decide +kernel
theorem d_Ma_carry_87 : decode M_Ma_carry.2.1 87 = .ok (.iinc 4 1, 3) := by decide +kernel
theorem d_Ma_carry_90 : decode M_Ma_carry.2.1 90 = .ok (.goto (-60), 3) := by decide +kernel
theorem d_Ma_carry_93 : decode M_Ma_carry.2.1 93 = .ok (.iconst 1, 1) := by decide +kernel
theorem d_Ma_carry_94 : decode M_Ma_carry.2.1 94 = .ok (.ireturn, 1) := by decide +kernel
theorem d_Ma_failOverdue_0 : decode M_Ma_failOverdue.2.1 0 = .ok (.aload_n 0, 1) := by decide +kernel
theorem d_Ma_failOverdue_1 : decode M_Ma_failOverdue.2.1 1 = .ok (.getfield 65, 3) := by decide +kernel
theorem d_Ma_failOverdue_4 : decode M_Ma_failOverdue.2.1 4 = .ok (.aload_n 1, 1) := by decide +kernel
theorem d_Ma_failOverdue_5 : decode M_Ma_failOverdue.2.1 5 = .ok (.getfield 243, 3) := by decide +kernel
theorem d_Ma_failOverdue_8 : decode M_Ma_failOverdue.2.1 8 = .ok (.aload_n 0, 1) := by decide +kernel
theorem d_Ma_failOverdue_9 : decode M_Ma_failOverdue.2.1 9 = .ok (.getfield 20, 3) := by decide +kernel
theorem d_Ma_failOverdue_12 : decode M_Ma_failOverdue.2.1 12 = .ok (.iadd, 1) := by decide +kernel
theorem d_Ma_failOverdue_13 : decode M_Ma_failOverdue.2.1 13 = .ok (.if_icmp .lt 19, 3) := by decide +kernel
theorem d_Ma_failOverdue_16 : decode M_Ma_failOverdue.2.1 16 = .ok (.aload_n 0, 1) := by decide +kernel
theorem d_Ma_failOverdue_17 : decode M_Ma_failOverdue.2.1 17 = .ok (.dup, 1) := by decide +kernel
theorem d_Ma_failOverdue_18 : decode M_Ma_failOverdue.2.1 18 = .ok (.getfield 71, 3) := by decide +kernel
theorem d_Ma_failOverdue_21 : decode M_Ma_failOverdue.2.1 21 = .ok (.aload_n 1, 1) := by decide +kernel
theorem d_Ma_failOverdue_22 : decode M_Ma_failOverdue.2.1 22 = .ok (.getfield 199, 3) := by decide +kernel
theorem d_Ma_failOverdue_25 : decode M_Ma_failOverdue.2.1 25 = .ok (.invokevirtual 245, 3) := by decide +kernel
theorem d_Ma_failOverdue_28 : decode M_Ma_failOverdue.2.1 28 = .ok (.iadd, 1) := by decide +kernel
theorem d_Ma_failOverdue_29 : decode M_Ma_failOverdue.2.1 29 = .ok (.putfield 71, 3) := by decide +kernel
theorem d_Ma_failOverdue_32 : decode M_Ma_failOverdue.2.1 32 = .ok (.return_, 1) := by decide +kernel
theorem d_Ma_settle_0 : decode M_Ma_settle.2.1 0 = .ok (.aload_n 0, 1) := by decide +kernel
theorem d_Ma_settle_1 : decode M_Ma_settle.2.1 1 = .ok (.dup, 1) := by decide +kernel
theorem d_Ma_settle_2 : decode M_Ma_settle.2.1 2 = .ok (.getfield 71, 3) := by decide +kernel
theorem d_Ma_settle_5 : decode M_Ma_settle.2.1 5 = .ok (.iconst 1, 1) := by decide +kernel
theorem d_Ma_settle_6 : decode M_Ma_settle.2.1 6 = .ok (.iadd, 1) := by decide +kernel
theorem d_Ma_settle_7 : decode M_Ma_settle.2.1 7 = .ok (.putfield 71, 3) := by decide +kernel
theorem d_Ma_settle_10 : decode M_Ma_settle.2.1 10 = .ok (.aload_n 1, 1) := by decide +kernel
theorem d_Ma_settle_11 : decode M_Ma_settle.2.1 11 = .ok (.getfield 199, 3) := by decide +kernel
theorem d_Ma_settle_14 : decode M_Ma_settle.2.1 14 = .ok (.iconst 1, 1) := by decide +kernel
theorem d_Ma_settle_15 : decode M_Ma_settle.2.1 15 = .ok (.invokevirtual 248, 3) := by decide +kernel
theorem d_Ma_settle_18 : decode M_Ma_settle.2.1 18 = .ok (.ifCond .le 17, 3) := by decide +kernel
theorem d_Ma_settle_21 : decode M_Ma_settle.2.1 21 = .ok (.aload_n 1, 1) := by decide +kernel
theorem d_Ma_settle_22 : decode M_Ma_settle.2.1 22 = .ok (.aload_n 0, 1) := by decide +kernel
theorem d_Ma_settle_23 : decode M_Ma_settle.2.1 23 = .ok (.getfield 65, 3) := by decide +kernel
theorem d_Ma_settle_26 : decode M_Ma_settle.2.1 26 = .ok (.aload_n 0, 1) := by decide +kernel
theorem d_Ma_settle_27 : decode M_Ma_settle.2.1 27 = .ok (.getfield 17, 3) := by decide +kernel
theorem d_Ma_settle_30 : decode M_Ma_settle.2.1 30 = .ok (.invokevirtual 251, 3) := by decide +kernel
theorem d_Ma_settle_33 : decode M_Ma_settle.2.1 33 = .ok (.iconst 1, 1) := by decide +kernel
theorem d_Ma_settle_34 : decode M_Ma_settle.2.1 34 = .ok (.ireturn, 1) := by decide +kernel
theorem d_Ma_settle_35 : decode M_Ma_settle.2.1 35 = .ok (.aload_n 1, 1) := by decide +kernel
theorem d_Ma_settle_36 : decode M_Ma_settle.2.1 36 = .ok (.getfield 199, 3) := by decide +kernel
theorem d_Ma_settle_39 : decode M_Ma_settle.2.1 39 = .ok (.iconst 3, 1) := by decide +kernel
theorem d_Ma_settle_40 : decode M_Ma_settle.2.1 40 = .ok (.invokevirtual 248, 3) := by decide +kernel
theorem d_Ma_settle_43 : decode M_Ma_settle.2.1 43 = .ok (.ifCond .le 29, 3) := by decide +kernel
theorem d_Ma_settle_46 : decode M_Ma_settle.2.1 46 = .ok (.aload_n 1, 1) := by decide +kernel
theorem d_Ma_settle_47 : decode M_Ma_settle.2.1 47 = .ok (.getfield 203, 3) := by decide +kernel
theorem d_Ma_settle_50 : decode M_Ma_settle.2.1 50 = .ok (.iconst (-1), 1) := by decide +kernel
theorem d_Ma_settle_51 : decode M_Ma_settle.2.1 51 = .ok (.if_icmp .eq 21, 3) := by decide +kernel
theorem d_Ma_settle_54 : decode M_Ma_settle.2.1 54 = .ok (.aload_n 1, 1) := by decide +kernel
theorem d_Ma_settle_55 : decode M_Ma_settle.2.1 55 = .ok (.invokevirtual 254, 3) := by decide +kernel
theorem d_Ma_settle_58 : decode M_Ma_settle.2.1 58 = .ok (.aload_n 1, 1) := by decide +kernel
theorem d_Ma_settle_59 : decode M_Ma_settle.2.1 59 = .ok (.aload_n 0, 1) := by decide +kernel
theorem d_Ma_settle_60 : decode M_Ma_settle.2.1 60 = .ok (.getfield 65, 3) := by decide +kernel
theorem d_Ma_settle_63 : decode M_Ma_settle.2.1 63 = .ok (.aload_n 0, 1) := by decide +kernel
theorem d_Ma_settle_64 : decode M_Ma_settle.2.1 64 = .ok (.getfield 13, 3) := by decide +kernel
theorem d_Ma_settle_67 : decode M_Ma_settle.2.1 67 = .ok (.invokevirtual 153, 3) := by decide +kernel
theorem d_Ma_settle_70 : decode M_Ma_settle.2.1 70 = .ok (.iconst 1, 1) := by decide +kernel
theorem d_Ma_settle_71 : decode M_Ma_settle.2.1 71 = .ok (.ireturn, 1) := by decide +kernel
theorem d_Ma_settle_72 : decode M_Ma_settle.2.1 72 = .ok (.iconst 0, 1) := by decide +kernel
theorem d_Ma_settle_73 : decode M_Ma_settle.2.1 73 = .ok (.ireturn, 1) := by decide +kernel
theorem d_Ma_keepChangesFew_0 : decode M_Ma_keepChangesFew.2.1 0 = .ok (.aload_n 0, 1) := by decide +kernel
theorem d_Ma_keepChangesFew_1 : decode M_Ma_keepChangesFew.2.1 1 = .ok (.getfield 71, 3) := by decide +kernel
theorem d_Ma_keepChangesFew_4 : decode M_Ma_keepChangesFew.2.1 4 = .ok (.bipush 24, 2) := by decide +kernel
theorem d_Ma_keepChangesFew_6 : decode M_Ma_keepChangesFew.2.1 6 = .ok (.if_icmp .lt 7, 3) := by decide +kernel
theorem d_Ma_keepChangesFew_9 : decode M_Ma_keepChangesFew.2.1 9 = .ok (.aload_n 0, 1) := by decide +kernel
theorem d_Ma_keepChangesFew_10 : decode M_Ma_keepChangesFew.2.1 10 = .ok (.invokevirtual 157, 3) := by decide +kernel
theorem d_Ma_keepChangesFew_13 : decode M_Ma_keepChangesFew.2.1 13 = .ok (.return_, 1) := by decide +kernel
theorem d_Ma_makeDurable_0 : decode M_Ma_makeDurable.2.1 0 = .ok (.aload_n 0, 1) := by decide +kernel
theorem d_Ma_makeDurable_1 : decode M_Ma_makeDurable.2.1 1 = .ok (.getfield 55, 3) := by decide +kernel
theorem d_Ma_makeDurable_4 : decode M_Ma_makeDurable.2.1 4 = .ok (.aload_n 0, 1) := by decide +kernel
theorem d_Ma_makeDurable_5 : decode M_Ma_makeDurable.2.1 5 = .ok (.getfield 51, 3) := by decide +kernel
theorem d_Ma_makeDurable_8 : decode M_Ma_makeDurable.2.1 8 = .ok (.invokevirtual 186, 3) := by decide +kernel
theorem d_Ma_makeDurable_11 : decode M_Ma_makeDurable.2.1 11 = .ok (.aload_n 0, 1) := by decide +kernel
theorem d_Ma_makeDurable_12 : decode M_Ma_makeDurable.2.1 12 = .ok (.iconst 0, 1) := by decide +kernel
theorem d_Ma_makeDurable_13 : decode M_Ma_makeDurable.2.1 13 = .ok (.putfield 71, 3) := by decide +kernel
theorem d_Ma_makeDurable_16 : decode M_Ma_makeDurable.2.1 16 = .ok (.return_, 1) := by decide +kernel
