theorem d_Al_init_0 : decode M_Al_init.2.1 0 = .ok (.aload_n 0, 1) := by decide +kernel
theorem d_Al_init_1 : decode M_Al_init.2.1 1 = .ok (.invokespecial 3, 3) := by decide +kernel
theorem d_Al_init_4 : decode M_Al_init.2.1 4 = .ok (.aload_n 0, 1) := by decide +kernel
theorem d_Al_init_5 : decode M_Al_init.2.1 5 = .ok (.bipush 8, 2) := by decide +kernel
theorem d_Al_init_7 : decode M_Al_init.2.1 7 = .ok (.newarray .long, 2) := by decide +kernel
theorem d_Al_init_9 : decode M_Al_init.2.1 9 = .ok (.putfield 9, 3) := by decide +kernel
theorem d_Al_init_12 : decode M_Al_init.2.1 12 = .ok (.return_, 1) := by decide +kernel
theorem d_Al_hasRoomFor_0 : decode M_Al_hasRoomFor.2.1 0 = .ok (.aload_n 0, 1) := by decide +kernel
theorem d_Al_hasRoomFor_1 : decode M_Al_hasRoomFor.2.1 1 = .ok (.getfield 9, 3) := by decide +kernel
theorem d_Al_hasRoomFor_4 : decode M_Al_hasRoomFor.2.1 4 = .ok (.iload_n 1, 1) := by decide +kernel
theorem d_Al_hasRoomFor_5 : decode M_Al_hasRoomFor.2.1 5 = .ok (.laload, 1) := by decide +kernel
theorem d_Al_hasRoomFor_6 : decode M_Al_hasRoomFor.2.1 6 = .ok (.invokestatic 15, 3) := by decide +kernel
theorem d_Al_hasRoomFor_9 : decode M_Al_hasRoomFor.2.1 9 = .ok (.iconst 4, 1) := by decide +kernel
theorem d_Al_hasRoomFor_10 : decode M_Al_hasRoomFor.2.1 10 = .ok (.if_icmp .ge 22, 3) := by decide +kernel
theorem d_Al_hasRoomFor_13 : decode M_Al_hasRoomFor.2.1 13 = .ok (.aload_n 0, 1) := by decide +kernel
theorem d_Al_hasRoomFor_14 : decode M_Al_hasRoomFor.2.1 14 = .ok (.getfield 9, 3) := by decide +kernel
theorem d_Al_hasRoomFor_17 : decode M_Al_hasRoomFor.2.1 17 = .ok (.iload_n 1, 1) := by decide +kernel
theorem d_Al_hasRoomFor_18 : decode M_Al_hasRoomFor.2.1 18 = .ok (.laload, 1) := by decide +kernel
theorem d_Al_hasRoomFor_19 : decode M_Al_hasRoomFor.2.1 19 = .ok (.lconst 1, 1) := by decide +kernel
theorem d_Al_hasRoomFor_20 : decode M_Al_hasRoomFor.2.1 20 = .ok (.iload_n 2, 1) := by decide +kernel
theorem d_Al_hasRoomFor_21 : decode M_Al_hasRoomFor.2.1 21 = .ok (.lshl, 1) := by decide +kernel
theorem d_Al_hasRoomFor_22 : decode M_Al_hasRoomFor.2.1 22 = .ok (.land, 1) := by decide +kernel
theorem d_Al_hasRoomFor_23 : decode M_Al_hasRoomFor.2.1 23 = .ok (.lconst 0, 1) := by decide +kernel
theorem d_Al_hasRoomFor_24 : decode M_Al_hasRoomFor.2.1 24 = .ok (.lcmp, 1) := by decide +kernel
theorem d_Al_hasRoomFor_25 : decode M_Al_hasRoomFor.2.1 25 = .ok (.ifCond .ne 7, 3) := by decide +kernel
theorem d_Al_hasRoomFor_28 : decode M_Al_hasRoomFor.2.1 28 = .ok (.iconst 1, 1) := by decide +kernel
theorem d_Al_hasRoomFor_29 : decode M_Al_hasRoomFor.2.1 29 = .ok (.goto 4, 3) := by decide +kernel
theorem d_Al_hasRoomFor_32 : decode M_Al_hasRoomFor.2.1 32 = .ok (.iconst 0, 1) := by decide +kernel
theorem d_Al_hasRoomFor_33 : decode M_Al_hasRoomFor.2.1 33 = .ok (.ireturn, 1) := by decide +kernel
theorem d_Al_add_0 : decode M_Al_add.2.1 0 = .ok (.aload_n 0, 1) := by decide +kernel
theorem d_Al_add_1 : decode M_Al_add.2.1 1 = .ok (.getfield 9, 3) := by decide +kernel
theorem d_Al_add_4 : decode M_Al_add.2.1 4 = .ok (.iload_n 1, 1) := by decide +kernel
theorem d_Al_add_5 : decode M_Al_add.2.1 5 = .ok (.dup2, 1) := by decide +kernel
theorem d_Al_add_6 : decode M_Al_add.2.1 6 = .ok (.laload, 1) := by decide +kernel
theorem d_Al_add_7 : decode M_Al_add.2.1 7 = .ok (.lconst 1, 1) := by decide +kernel
theorem d_Al_add_8 : decode M_Al_add.2.1 8 = .ok (.iload_n 2, 1) := by decide +kernel
theorem d_Al_add_9 : decode M_Al_add.2.1 9 = .ok (.lshl, 1) := by decide +kernel
theorem d_Al_add_10 : decode M_Al_add.2.1 10 = .ok (.lor, 1) := by decide +kernel
theorem d_Al_add_11 : decode M_Al_add.2.1 11 = .ok (.lastore, 1) := by decide +kernel
theorem d_Al_add_12 : decode M_Al_add.2.1 12 = .ok (.aload_n 0, 1) := by decide +kernel
theorem d_Al_add_13 : decode M_Al_add.2.1 13 = .ok (.getfield 9, 3) := by decide +kernel
theorem d_Al_add_16 : decode M_Al_add.2.1 16 = .ok (.iload_n 1, 1) := by decide +kernel
theorem d_Al_add_17 : decode M_Al_add.2.1 17 = .ok (.laload, 1) := by decide +kernel
theorem d_Al_add_18 : decode M_Al_add.2.1 18 = .ok (.invokestatic 15, 3) := by decide +kernel
theorem d_Al_add_21 : decode M_Al_add.2.1 21 = .ok (.ireturn, 1) := by decide +kernel
theorem d_Al_clear_0 : decode M_Al_clear.2.1 0 = .ok (.aload_n 0, 1) := by decide +kernel
theorem d_Al_clear_1 : decode M_Al_clear.2.1 1 = .ok (.getfield 9, 3) := by decide +kernel
theorem d_Al_clear_4 : decode M_Al_clear.2.1 4 = .ok (.iload_n 1, 1) := by decide +kernel
theorem d_Al_clear_5 : decode M_Al_clear.2.1 5 = .ok (.laload, 1) := by decide +kernel
theorem d_Al_clear_6 : decode M_Al_clear.2.1 6 = .ok (.invokestatic 15, 3) := by decide +kernel
theorem d_Al_clear_9 : decode M_Al_clear.2.1 9 = .ok (.istore_n 2, 1) := by decide +kernel
theorem d_Al_clear_10 : decode M_Al_clear.2.1 10 = .ok (.aload_n 0, 1) := by decide +kernel
theorem d_Al_clear_11 : decode M_Al_clear.2.1 11 = .ok (.getfield 9, 3) := by decide +kernel
theorem d_Al_clear_14 : decode M_Al_clear.2.1 14 = .ok (.iload_n 1, 1) := by decide +kernel
theorem d_Al_clear_15 : decode M_Al_clear.2.1 15 = .ok (.lconst 0, 1) := by decide +kernel
theorem d_Al_clear_16 : decode M_Al_clear.2.1 16 = .ok (.lastore, 1) := by decide +kernel
theorem d_Al_clear_17 : decode M_Al_clear.2.1 17 = .ok (.iload_n 2, 1) := by decide +kernel
theorem d_Al_clear_18 : decode M_Al_clear.2.1 18 = .ok (.ireturn, 1) := by decide +kernel
theorem d_Al_finalsOf_0 : decode M_Al_finalsOf.2.1 0 = .ok (.aload_n 0, 1) := by decide +kernel
theorem d_Al_finalsOf_1 : decode M_Al_finalsOf.2.1 1 = .ok (.iload_n 1, 1) := by decide +kernel
theorem d_Al_finalsOf_2 : decode M_Al_finalsOf.2.1 2 = .ok (.invokevirtual 21, 3) := by decide +kernel
theorem d_Al_finalsOf_5 : decode M_Al_finalsOf.2.1 5 = .ok (.lstore_n 2, 1) := by decide +kernel
theorem d_Al_finalsOf_6 : decode M_Al_finalsOf.2.1 6 = .ok (.iconst 0, 1) := by decide +kernel
theorem d_Al_finalsOf_7 : decode M_Al_finalsOf.2.1 7 = .ok (.istore 4, 2) := by decide +kernel
theorem d_Al_finalsOf_9 : decode M_Al_finalsOf.2.1 9 = .ok (.iload 4, 2) := by decide +kernel
theorem d_Al_finalsOf_11 : decode M_Al_finalsOf.2.1 11 = .ok (.bipush 8, 2) := by decide +kernel
theorem d_Al_finalsOf_13 : decode M_Al_finalsOf.2.1 13 = .ok (.if_icmp .ge 32, 3) := by decide +kernel
theorem d_Al_finalsOf_16 : decode M_Al_finalsOf.2.1 16 = .ok (.aload_n 0, 1) := by decide +kernel
theorem d_Al_finalsOf_17 : decode M_Al_finalsOf.2.1 17 = .ok (.getfield 9, 3) := by decide +kernel
theorem d_Al_finalsOf_20 : decode M_Al_finalsOf.2.1 20 = .ok (.iload 4, 2) := by decide +kernel
theorem d_Al_finalsOf_22 : decode M_Al_finalsOf.2.1 22 = .ok (.laload, 1) := by decide +kernel
theorem d_Al_finalsOf_23 : decode M_Al_finalsOf.2.1 23 = .ok (.lconst 0, 1) := by decide +kernel
theorem d_Al_finalsOf_24 : decode M_Al_finalsOf.2.1 24 = .ok (.lcmp, 1) := by decide +kernel
theorem d_Al_finalsOf_25 : decode M_Al_finalsOf.2.1 25 = .ok (.ifCond .eq 14, 3) := by decide +kernel
theorem d_Al_finalsOf_28 : decode M_Al_finalsOf.2.1 28 = .ok (.lload_n 2, 1) := by decide +kernel
theorem d_Al_finalsOf_29 : decode M_Al_finalsOf.2.1 29 = .ok (.lconst 1, 1) := by decide +kernel
theorem d_Al_finalsOf_30 : decode M_Al_finalsOf.2.1 30 = .ok (.iload 4, 2) := by decide +kernel
theorem d_Al_finalsOf_32 : decode M_Al_finalsOf.2.1 32 = .ok (.lshl, 1) := by decide +kernel
theorem d_Al_finalsOf_33 : decode M_Al_finalsOf.2.1 33 = .ok (.ldc2_w 25, 3) := by decide +kernel
theorem d_Al_finalsOf_36 : decode M_Al_finalsOf.2.1 36 = .ok (.lxor, 1) := by decide +kernel
theorem d_Al_finalsOf_37 : decode M_Al_finalsOf.2.1 37 = .ok (.land, 1) := by decide +kernel
theorem d_Al_finalsOf_38 : decode M_Al_finalsOf.2.1 38 = .ok (.lstore_n 2, 1) := by decide +kernel
theorem d_Al_finalsOf_39 : decode M_Al_finalsOf.2.1 39 = .ok (.iinc 4 1, 3) := by decide +kernel
theorem d_Al_finalsOf_42 : decode M_Al_finalsOf.2.1 42 = .ok (.goto (-33), 3) := by decide +kernel
theorem d_Al_finalsOf_45 : decode M_Al_finalsOf.2.1 45 = .ok (.lload_n 2, 1) := by decide +kernel
theorem d_Al_finalsOf_46 : decode M_Al_finalsOf.2.1 46 = .ok (.lreturn, 1) := by decide +kernel
theorem d_Al_reachedFrom_0 : decode M_Al_reachedFrom.2.1 0 = .ok (.lconst 1, 1) := by decide +kernel
theorem d_Al_reachedFrom_1 : decode M_Al_reachedFrom.2.1 1 = .ok (.iload_n 1, 1) := by decide +kernel
theorem d_Al_reachedFrom_2 : decode M_Al_reachedFrom.2.1 2 = .ok (.lshl, 1) := by decide +kernel
theorem d_Al_reachedFrom_3 : decode M_Al_reachedFrom.2.1 3 = .ok (.lstore_n 2, 1) := by decide +kernel
theorem d_Al_reachedFrom_4 : decode M_Al_reachedFrom.2.1 4 = .ok (.iconst 0, 1) := by decide +kernel
theorem d_Al_reachedFrom_5 : decode M_Al_reachedFrom.2.1 5 = .ok (.istore 4, 2) := by decide +kernel
theorem d_Al_reachedFrom_7 : decode M_Al_reachedFrom.2.1 7 = .ok (.iload 4, 2) := by decide +kernel
theorem d_Al_reachedFrom_9 : decode M_Al_reachedFrom.2.1 9 = .ok (.bipush 8, 2) := by decide +kernel
theorem d_Al_reachedFrom_11 : decode M_Al_reachedFrom.2.1 11 = .ok (.if_icmp .ge 46, 3) := by decide +kernel
theorem d_Al_reachedFrom_14 : decode M_Al_reachedFrom.2.1 14 = .ok (.iconst 0, 1) := by decide +kernel
theorem d_Al_reachedFrom_15 : decode M_Al_reachedFrom.2.1 15 = .ok (.istore 5, 2) := by decide +kernel
theorem d_Al_reachedFrom_17 : decode M_Al_reachedFrom.2.1 17 = .ok (.iload 5, 2) := by decide +kernel
theorem d_Al_reachedFrom_19 : decode M_Al_reachedFrom.2.1 19 = .ok (.bipush 8, 2) := by decide +kernel
theorem d_Al_reachedFrom_21 : decode M_Al_reachedFrom.2.1 21 = .ok (.if_icmp .ge 30, 3) := by decide +kernel
theorem d_Al_reachedFrom_24 : decode M_Al_reachedFrom.2.1 24 = .ok (.lload_n 2, 1) := by decide +kernel
theorem d_Al_reachedFrom_25 : decode M_Al_reachedFrom.2.1 25 = .ok (.lconst 1, 1) := by decide +kernel
theorem d_Al_reachedFrom_26 : decode M_Al_reachedFrom.2.1 26 = .ok (.iload 5, 2) := by decide +kernel
theorem d_Al_reachedFrom_28 : decode M_Al_reachedFrom.2.1 28 = .ok (.lshl, 1) := by decide +kernel
theorem d_Al_reachedFrom_29 : decode M_Al_reachedFrom.2.1 29 = .ok (.land, 1) := by decide +kernel
theorem d_Al_reachedFrom_30 : decode M_Al_reachedFrom.2.1 30 = .ok (.lconst 0, 1) := by decide +kernel
theorem d_Al_reachedFrom_31 : decode M_Al_reachedFrom.2.1 31 = .ok (.lcmp, 1) := by decide +kernel
theorem d_Al_reachedFrom_32 : decode M_Al_reachedFrom.2.1 32 = .ok (.ifCond .eq 13, 3) := by decide +kernel
theorem d_Al_reachedFrom_35 : decode M_Al_reachedFrom.2.1 35 = .ok (.lload_n 2, 1) := by decide +kernel
theorem d_Al_reachedFrom_36 : decode M_Al_reachedFrom.2.1 36 = .ok (.aload_n 0, 1) := by decide +kernel
theorem d_Al_reachedFrom_37 : decode M_Al_reachedFrom.2.1 37 = .ok (.getfield 9, 3) := by decide +kernel
theorem d_Al_reachedFrom_40 : decode M_Al_reachedFrom.2.1 40 = .ok (.iload 5, 2) := by decide +kernel
theorem d_Al_reachedFrom_42 : decode M_Al_reachedFrom.2.1 42 = .ok (.laload, 1) := by decide +kernel
theorem d_Al_reachedFrom_43 : decode M_Al_reachedFrom.2.1 43 = .ok (.lor, 1) := by decide +kernel
theorem d_Al_reachedFrom_44 : decode M_Al_reachedFrom.2.1 44 = .ok (.lstore_n 2, 1) := by decide +kernel
theorem d_Al_reachedFrom_45 : decode M_Al_reachedFrom.2.1 45 = .ok (.iinc 5 1, 3) := by decide +kernel
theorem d_Al_reachedFrom_48 : decode M_Al_reachedFrom.2.1 48 = .ok (.goto (-31), 3) := by decide +kernel
theorem d_Al_reachedFrom_51 : decode M_Al_reachedFrom.2.1 51 = .ok (.iinc 4 1, 3) := by decide +kernel
theorem d_Al_reachedFrom_54 : decode M_Al_reachedFrom.2.1 54 = .ok (.goto (-47), 3) := by decide +kernel
theorem d_Al_reachedFrom_57 : decode M_Al_reachedFrom.2.1 57 = .ok (.lload_n 2, 1) := by decide +kernel
theorem d_Al_reachedFrom_58 : decode M_Al_reachedFrom.2.1 58 = .ok (.lreturn, 1) := by decide +kernel
theorem d_De_init_0 : decode M_De_init.2.1 0 = .ok (.aload_n 0, 1) := by decide +kernel
theorem d_De_init_1 : decode M_De_init.2.1 1 = .ok (.invokespecial 3, 3) := by decide +kernel
theorem d_De_init_4 : decode M_De_init.2.1 4 = .ok (.aload_n 0, 1) := by decide +kernel
theorem d_De_init_5 : decode M_De_init.2.1 5 = .ok (.bipush 64, 2) := by decide +kernel
theorem d_De_init_7 : decode M_De_init.2.1 7 = .ok (.newarray .int, 2) := by decide +kernel
theorem d_De_init_9 : decode M_De_init.2.1 9 = .ok (.putfield 9, 3) := by decide +kernel
theorem d_De_init_12 : decode M_De_init.2.1 12 = .ok (.aload_n 0, 1) := by decide +kernel
theorem d_De_init_13 : decode M_De_init.2.1 13 = .ok (.bipush 64, 2) := by decide +kernel
theorem d_De_init_15 : decode M_De_init.2.1 15 = .ok (.newarray .int, 2) := by decide +kernel
theorem d_De_init_17 : decode M_De_init.2.1 17 = .ok (.putfield 15, 3) := by decide +kernel
theorem d_De_init_20 : decode M_De_init.2.1 20 = .ok (.aload_n 0, 1) := by decide +kernel
theorem d_De_init_21 : decode M_De_init.2.1 21 = .ok (.bipush 64, 2) := by decide +kernel
theorem d_De_init_23 : decode M_De_init.2.1 23 = .ok (.newarray .int, 2) := by decide +kernel
theorem d_De_init_25 : decode M_De_init.2.1 25 = .ok (.putfield 18, 3) := by decide +kernel
theorem d_De_init_28 : decode M_De_init.2.1 28 = .ok (.aload_n 0, 1) := by decide +kernel
theorem d_De_init_29 : decode M_De_init.2.1 29 = .ok (.bipush 8, 2) := by decide +kernel
theorem d_De_init_31 : decode M_De_init.2.1 31 = .ok (.newarray .int, 2) := by decide +kernel
theorem d_De_init_33 : decode M_De_init.2.1 33 = .ok (.putfield 21, 3) := by decide +kernel
theorem d_De_init_36 : decode M_De_init.2.1 36 = .ok (.return_, 1) := by decide +kernel
theorem d_De_note_0 : decode M_De_note.2.1 0 = .ok (.aload_n 2, 1) := by decide +kernel
theorem d_De_note_1 : decode M_De_note.2.1 1 = .ok (.getfield 24, 3) := by decide +kernel
theorem d_De_note_4 : decode M_De_note.2.1 4 = .ok (.ifCond .eq 16, 3) := by decide +kernel
theorem d_De_note_7 : decode M_De_note.2.1 7 = .ok (.aload_n 0, 1) := by decide +kernel
theorem d_De_note_8 : decode M_De_note.2.1 8 = .ok (.getfield 15, 3) := by decide +kernel
theorem d_De_note_11 : decode M_De_note.2.1 11 = .ok (.iload_n 1, 1) := by decide +kernel
theorem d_De_note_12 : decode M_De_note.2.1 12 = .ok (.dup2, 1) := by decide +kernel
theorem d_De_note_13 : decode M_De_note.2.1 13 = .ok (.iaload, 1) := by decide +kernel
theorem d_De_note_14 : decode M_De_note.2.1 14 = .ok (.iconst 1, 1) := by decide +kernel
theorem d_De_note_15 : decode M_De_note.2.1 15 = .ok (.iadd, 1) := by decide +kernel
theorem d_De_note_16 : decode M_De_note.2.1 16 = .ok (.iastore, 1) := by decide +kernel
theorem d_De_note_17 : decode M_De_note.2.1 17 = .ok (.goto 13, 3) := by decide +kernel
theorem d_De_note_20 : decode M_De_note.2.1 20 = .ok (.aload_n 0, 1) := by decide +kernel
theorem d_De_note_21 : decode M_De_note.2.1 21 = .ok (.getfield 9, 3) := by decide +kernel
theorem d_De_note_24 : decode M_De_note.2.1 24 = .ok (.iload_n 1, 1) := by decide +kernel
theorem d_De_note_25 : decode M_De_note.2.1 25 = .ok (.dup2, 1) := by decide +kernel
theorem d_De_note_26 : decode M_De_note.2.1 26 = .ok (.iaload, 1) := by decide +kernel
theorem d_De_note_27 : decode M_De_note.2.1 27 = .ok (.iconst 1, 1) := by decide +kernel
theorem d_De_note_28 : decode M_De_note.2.1 28 = .ok (.iadd, 1) := by decide +kernel
theorem d_De_note_29 : decode M_De_note.2.1 29 = .ok (.iastore, 1) := by decide +kernel
theorem d_De_note_30 : decode M_De_note.2.1 30 = .ok (.aload_n 0, 1) := by decide +kernel
theorem d_De_note_31 : decode M_De_note.2.1 31 = .ok (.getfield 18, 3) := by decide +kernel
theorem d_De_note_34 : decode M_De_note.2.1 34 = .ok (.iload_n 1, 1) := by decide +kernel
theorem d_De_note_35 : decode M_De_note.2.1 35 = .ok (.aload_n 2, 1) := by decide +kernel
theorem d_De_note_36 : decode M_De_note.2.1 36 = .ok (.getfield 30, 3) := by decide +kernel
theorem d_De_note_39 : decode M_De_note.2.1 39 = .ok (.iastore, 1) := by decide +kernel
theorem d_De_note_40 : decode M_De_note.2.1 40 = .ok (.return_, 1) := by decide +kernel
theorem d_Me_init_0 : decode M_Me_init.2.1 0 = .ok (.aload_n 0, 1) := by decide +kernel
theorem d_Me_init_1 : decode M_Me_init.2.1 1 = .ok (.invokespecial 3, 3) := by decide +kernel
theorem d_Me_init_4 : decode M_Me_init.2.1 4 = .ok (.aload_n 0, 1) := by decide +kernel
theorem d_Me_init_5 : decode M_Me_init.2.1 5 = .ok (.new 9, 3) := by decide +kernel
theorem d_Me_init_8 : decode M_Me_init.2.1 8 = .ok (.dup, 1) := by decide +kernel
theorem d_Me_init_9 : decode M_Me_init.2.1 9 = .ok (.invokespecial 11, 3) := by decide +kernel
theorem d_Me_init_12 : decode M_Me_init.2.1 12 = .ok (.putfield 12, 3) := by decide +kernel
theorem d_Me_init_15 : decode M_Me_init.2.1 15 = .ok (.return_, 1) := by decide +kernel
theorem d_Me_accept_0 : decode M_Me_accept.2.1 0 = .ok (.aload_n 0, 1) := by decide +kernel
theorem d_Me_accept_1 : decode M_Me_accept.2.1 1 = .ok (.iload_n 1, 1) := by decide +kernel
theorem d_Me_accept_2 : decode M_Me_accept.2.1 2 = .ok (.putfield 18, 3) := by decide +kernel
theorem d_Me_accept_5 : decode M_Me_accept.2.1 5 = .ok (.aload_n 0, 1) := by decide +kernel
theorem d_Me_accept_6 : decode M_Me_accept.2.1 6 = .ok (.aload_n 3, 1) := by decide +kernel
theorem d_Me_accept_7 : decode M_Me_accept.2.1 7 = .ok (.getfield 22, 3) := by decide +kernel
theorem d_Me_accept_10 : decode M_Me_accept.2.1 10 = .ok (.putfield 27, 3) := by decide +kernel
theorem d_Me_accept_13 : decode M_Me_accept.2.1 13 = .ok (.aload_n 0, 1) := by decide +kernel
theorem d_Me_accept_14 : decode M_Me_accept.2.1 14 = .ok (.iload_n 2, 1) := by decide +kernel
theorem d_Me_accept_15 : decode M_Me_accept.2.1 15 = .ok (.putfield 28, 3) := by decide +kernel
theorem d_Me_accept_18 : decode M_Me_accept.2.1 18 = .ok (.aload_n 0, 1) := by decide +kernel
theorem d_Me_accept_19 : decode M_Me_accept.2.1 19 = .ok (.iconst 0, 1) := by decide +kernel
theorem d_Me_accept_20 : decode M_Me_accept.2.1 20 = .ok (.putfield 31, 3) := by decide +kernel
theorem d_Me_accept_23 : decode M_Me_accept.2.1 23 = .ok (.aload_n 0, 1) := by decide +kernel
theorem d_Me_accept_24 : decode M_Me_accept.2.1 24 = .ok (.getfield 12, 3) := by decide +kernel
theorem d_Me_accept_27 : decode M_Me_accept.2.1 27 = .ok (.aload_n 3, 1) := by decide +kernel
theorem d_Me_accept_28 : decode M_Me_accept.2.1 28 = .ok (.getfield 35, 3) := by decide +kernel
theorem d_Me_accept_31 : decode M_Me_accept.2.1 31 = .ok (.invokevirtual 36, 3) := by decide +kernel
theorem d_Me_accept_34 : decode M_Me_accept.2.1 34 = .ok (.return_, 1) := by decide +kernel
theorem d_Me_schedule_0 : decode M_Me_schedule.2.1 0 = .ok (.aload_n 0, 1) := by decide +kernel
theorem d_Me_schedule_1 : decode M_Me_schedule.2.1 1 = .ok (.iload_n 1, 1) := by decide +kernel
theorem d_Me_schedule_2 : decode M_Me_schedule.2.1 2 = .ok (.putfield 40, 3) := by decide +kernel
theorem d_Me_schedule_5 : decode M_Me_schedule.2.1 5 = .ok (.aload_n 0, 1) := by decide +kernel
theorem d_Me_schedule_6 : decode M_Me_schedule.2.1 6 = .ok (.iload_n 1, 1) := by decide +kernel
theorem d_Me_schedule_7 : decode M_Me_schedule.2.1 7 = .ok (.putfield 43, 3) := by decide +kernel
theorem d_Me_schedule_10 : decode M_Me_schedule.2.1 10 = .ok (.aload_n 0, 1) := by decide +kernel
theorem d_Me_schedule_11 : decode M_Me_schedule.2.1 11 = .ok (.iload_n 2, 1) := by decide +kernel
theorem d_Me_schedule_12 : decode M_Me_schedule.2.1 12 = .ok (.putfield 46, 3) := by decide +kernel
theorem d_Me_schedule_15 : decode M_Me_schedule.2.1 15 = .ok (.return_, 1) := by decide +kernel
theorem d_Me_putOff_0 : decode M_Me_putOff.2.1 0 = .ok (.aload_n 0, 1) := by decide +kernel
theorem d_Me_putOff_1 : decode M_Me_putOff.2.1 1 = .ok (.iload_n 1, 1) := by decide +kernel
theorem d_Me_putOff_2 : decode M_Me_putOff.2.1 2 = .ok (.aload_n 0, 1) := by decide +kernel
theorem d_Me_putOff_3 : decode M_Me_putOff.2.1 3 = .ok (.getfield 46, 3) := by decide +kernel
theorem d_Me_putOff_6 : decode M_Me_putOff.2.1 6 = .ok (.iadd, 1) := by decide +kernel
theorem d_Me_putOff_7 : decode M_Me_putOff.2.1 7 = .ok (.putfield 43, 3) := by decide +kernel
theorem d_Me_putOff_10 : decode M_Me_putOff.2.1 10 = .ok (.aload_n 0, 1) := by decide +kernel
theorem d_Me_putOff_11 : decode M_Me_putOff.2.1 11 = .ok (.aload_n 0, 1) := by decide +kernel
theorem d_Me_putOff_12 : decode M_Me_putOff.2.1 12 = .ok (.getfield 46, 3) := by decide +kernel
theorem d_Me_putOff_15 : decode M_Me_putOff.2.1 15 = .ok (.iconst 2, 1) := by decide +kernel
theorem d_Me_putOff_16 : decode M_Me_putOff.2.1 16 = .ok (.imul, 1) := by decide +kernel
theorem d_Me_putOff_17 : decode M_Me_putOff.2.1 17 = .ok (.iload_n 2, 1) := by decide +kernel
theorem d_Me_putOff_18 : decode M_Me_putOff.2.1 18 = .ok (.invokestatic 49, 3) := by decide +kernel
theorem d_Me_putOff_21 : decode M_Me_putOff.2.1 21 = .ok (.putfield 46, 3) := by decide +kernel
theorem d_Me_putOff_24 : decode M_Me_putOff.2.1 24 = .ok (.return_, 1) := by decide +kernel
theorem d_Me_becomeReport_0 : decode M_Me_becomeReport.2.1 0 = .ok (.aload_n 0, 1) := by decide +kernel
theorem d_Me_becomeReport_1 : decode M_Me_becomeReport.2.1 1 = .ok (.getfield 12, 3) := by decide +kernel
theorem d_Me_becomeReport_4 : decode M_Me_becomeReport.2.1 4 = .ok (.iconst 0, 1) := by decide +kernel
theorem d_Me_becomeReport_5 : decode M_Me_becomeReport.2.1 5 = .ok (.putfield 55, 3) := by decide +kernel
theorem d_Me_becomeReport_8 : decode M_Me_becomeReport.2.1 8 = .ok (.aload_n 0, 1) := by decide +kernel
theorem d_Me_becomeReport_9 : decode M_Me_becomeReport.2.1 9 = .ok (.getfield 12, 3) := by decide +kernel
theorem d_Me_becomeReport_12 : decode M_Me_becomeReport.2.1 12 = .ok (.aload_n 0, 1) := by decide +kernel
theorem d_Me_becomeReport_13 : decode M_Me_becomeReport.2.1 13 = .ok (.getfield 27, 3) := by decide +kernel
theorem d_Me_becomeReport_16 : decode M_Me_becomeReport.2.1 16 = .ok (.invokevirtual 56, 3) := by decide +kernel
theorem d_Me_becomeReport_19 : decode M_Me_becomeReport.2.1 19 = .ok (.aload_n 0, 1) := by decide +kernel
theorem d_Me_becomeReport_20 : decode M_Me_becomeReport.2.1 20 = .ok (.iconst (-1), 1) := by decide +kernel
theorem d_Me_becomeReport_21 : decode M_Me_becomeReport.2.1 21 = .ok (.putfield 27, 3) := by decide +kernel
theorem d_Me_becomeReport_24 : decode M_Me_becomeReport.2.1 24 = .ok (.aload_n 0, 1) := by decide +kernel
theorem d_Me_becomeReport_25 : decode M_Me_becomeReport.2.1 25 = .ok (.iconst 0, 1) := by decide +kernel
theorem d_Me_becomeReport_26 : decode M_Me_becomeReport.2.1 26 = .ok (.putfield 28, 3) := by decide +kernel
theorem d_Me_becomeReport_29 : decode M_Me_becomeReport.2.1 29 = .ok (.aload_n 0, 1) := by decide +kernel
theorem d_Me_becomeReport_30 : decode M_Me_becomeReport.2.1 30 = .ok (.iconst 1, 1) := by decide +kernel
theorem d_Me_becomeReport_31 : decode M_Me_becomeReport.2.1 31 = .ok (.putfield 31, 3) := by decide +kernel
theorem d_Me_becomeReport_34 : decode M_Me_becomeReport.2.1 34 = .ok (.return_, 1) := by decide +kernel
theorem d_Me_copyFrom_0 : decode M_Me_copyFrom.2.1 0 = .ok (.aload_n 0, 1) := by decide +kernel
theorem d_Me_copyFrom_1 : decode M_Me_copyFrom.2.1 1 = .ok (.aload_n 1, 1) := by decide +kernel
theorem d_Me_copyFrom_2 : decode M_Me_copyFrom.2.1 2 = .ok (.getfield 18, 3) := by decide +kernel
theorem d_Me_copyFrom_5 : decode M_Me_copyFrom.2.1 5 = .ok (.putfield 18, 3) := by decide +kernel
theorem d_Me_copyFrom_8 : decode M_Me_copyFrom.2.1 8 = .ok (.aload_n 0, 1) := by decide +kernel
theorem d_Me_copyFrom_9 : decode M_Me_copyFrom.2.1 9 = .ok (.aload_n 1, 1) := by decide +kernel
theorem d_Me_copyFrom_10 : decode M_Me_copyFrom.2.1 10 = .ok (.getfield 27, 3) := by decide +kernel
theorem d_Me_copyFrom_13 : decode M_Me_copyFrom.2.1 13 = .ok (.putfield 27, 3) := by decide +kernel
theorem d_Me_copyFrom_16 : decode M_Me_copyFrom.2.1 16 = .ok (.aload_n 0, 1) := by decide +kernel
theorem d_Me_copyFrom_17 : decode M_Me_copyFrom.2.1 17 = .ok (.aload_n 1, 1) := by decide +kernel
theorem d_Me_copyFrom_18 : decode M_Me_copyFrom.2.1 18 = .ok (.getfield 28, 3) := by decide +kernel
theorem d_Me_copyFrom_21 : decode M_Me_copyFrom.2.1 21 = .ok (.putfield 28, 3) := by decide +kernel
theorem d_Me_copyFrom_24 : decode M_Me_copyFrom.2.1 24 = .ok (.aload_n 0, 1) := by decide +kernel
theorem d_Me_copyFrom_25 : decode M_Me_copyFrom.2.1 25 = .ok (.aload_n 1, 1) := by decide +kernel
theorem d_Me_copyFrom_26 : decode M_Me_copyFrom.2.1 26 = .ok (.getfield 40, 3) := by decide +kernel
theorem d_Me_copyFrom_29 : decode M_Me_copyFrom.2.1 29 = .ok (.putfield 40, 3) := by decide +kernel
theorem d_Me_copyFrom_32 : decode M_Me_copyFrom.2.1 32 = .ok (.aload_n 0, 1) := by decide +kernel
theorem d_Me_copyFrom_33 : decode M_Me_copyFrom.2.1 33 = .ok (.aload_n 1, 1) := by decide +kernel
theorem d_Me_copyFrom_34 : decode M_Me_copyFrom.2.1 34 = .ok (.getfield 43, 3) := by decide +kernel
theorem d_Me_copyFrom_37 : decode M_Me_copyFrom.2.1 37 = .ok (.putfield 43, 3) := by decide +kernel
theorem d_Me_copyFrom_40 : decode M_Me_copyFrom.2.1 40 = .ok (.aload_n 0, 1) := by decide +kernel
theorem d_Me_copyFrom_41 : decode M_Me_copyFrom.2.1 41 = .ok (.aload_n 1, 1) := by decide +kernel
theorem d_Me_copyFrom_42 : decode M_Me_copyFrom.2.1 42 = .ok (.getfield 46, 3) := by decide +kernel
theorem d_Me_copyFrom_45 : decode M_Me_copyFrom.2.1 45 = .ok (.putfield 46, 3) := by decide +kernel
theorem d_Me_copyFrom_48 : decode M_Me_copyFrom.2.1 48 = .ok (.aload_n 0, 1) := by decide +kernel
theorem d_Me_copyFrom_49 : decode M_Me_copyFrom.2.1 49 = .ok (.aload_n 1, 1) := by decide +kernel
theorem d_Me_copyFrom_50 : decode M_Me_copyFrom.2.1 50 = .ok (.getfield 31, 3) := by decide +kernel
theorem d_Me_copyFrom_53 : decode M_Me_copyFrom.2.1 53 = .ok (.putfield 31, 3) := by decide +kernel
theorem d_Me_copyFrom_56 : decode M_Me_copyFrom.2.1 56 = .ok (.aload_n 0, 1) := by decide +kernel
theorem d_Me_copyFrom_57 : decode M_Me_copyFrom.2.1 57 = .ok (.getfield 12, 3) := by decide +kernel
theorem d_Me_copyFrom_60 : decode M_Me_copyFrom.2.1 60 = .ok (.aload_n 1, 1) := by decide +kernel
theorem d_Me_copyFrom_61 : decode M_Me_copyFrom.2.1 61 = .ok (.getfield 12, 3) := by decide +kernel
theorem d_Me_copyFrom_64 : decode M_Me_copyFrom.2.1 64 = .ok (.invokevirtual 36, 3) := by decide +kernel
theorem d_Me_copyFrom_67 : decode M_Me_copyFrom.2.1 67 = .ok (.return_, 1) := by decide +kernel
theorem d_Qu_init_0 : decode M_Qu_init.2.1 0 = .ok (.aload_n 0, 1) := by decide +kernel
theorem d_Qu_init_1 : decode M_Qu_init.2.1 1 = .ok (.invokespecial 3, 3) := by decide +kernel
theorem d_Qu_init_4 : decode M_Qu_init.2.1 4 = .ok (.aload_n 0, 1) := by decide +kernel
theorem d_Qu_init_5 : decode M_Qu_init.2.1 5 = .ok (.bipush 6, 2) := by decide +kernel
theorem d_Qu_init_7 : decode M_Qu_init.2.1 7 = .ok (.anewarray 9, 3) := by decide +kernel
theorem d_Qu_init_10 : decode M_Qu_init.2.1 10 = .ok (.putfield 11, 3) := by decide +kernel
theorem d_Qu_init_13 : decode M_Qu_init.2.1 13 = .ok (.aload_n 0, 1) := by decide +kernel
theorem d_Qu_init_14 : decode M_Qu_init.2.1 14 = .ok (.iconst 0, 1) := by decide +kernel
theorem d_Qu_init_15 : decode M_Qu_init.2.1 15 = .ok (.putfield 17, 3) := by decide +kernel
theorem d_Qu_init_18 : decode M_Qu_init.2.1 18 = .ok (.iconst 0, 1) := by decide +kernel
theorem d_Qu_init_19 : decode M_Qu_init.2.1 19 = .ok (.istore_n 1, 1) := by decide +kernel
theorem d_Qu_init_20 : decode M_Qu_init.2.1 20 = .ok (.iload_n 1, 1) := by decide +kernel
theorem d_Qu_init_21 : decode M_Qu_init.2.1 21 = .ok (.bipush 6, 2) := by decide +kernel
theorem d_Qu_init_23 : decode M_Qu_init.2.1 23 = .ok (.if_icmp .ge 22, 3) := by decide +kernel
theorem d_Qu_init_26 : decode M_Qu_init.2.1 26 = .ok (.aload_n 0, 1) := by decide +kernel
theorem d_Qu_init_27 : decode M_Qu_init.2.1 27 = .ok (.getfield 11, 3) := by decide +kernel
theorem d_Qu_init_30 : decode M_Qu_init.2.1 30 = .ok (.iload_n 1, 1) := by decide +kernel
theorem d_Qu_init_31 : decode M_Qu_init.2.1 31 = .ok (.new 9, 3) := by decide +kernel
theorem d_Qu_init_34 : decode M_Qu_init.2.1 34 = .ok (.dup, 1) := by decide +kernel
theorem d_Qu_init_35 : decode M_Qu_init.2.1 35 = .ok (.invokespecial 21, 3) := by decide +kernel
theorem d_Qu_init_38 : decode M_Qu_init.2.1 38 = .ok (.aastore, 1) := by decide +kernel
theorem d_Qu_init_39 : decode M_Qu_init.2.1 39 = .ok (.iinc 1 1, 3) := by decide +kernel
theorem d_Qu_init_42 : decode M_Qu_init.2.1 42 = .ok (.goto (-22), 3) := by decide +kernel
theorem d_Qu_init_45 : decode M_Qu_init.2.1 45 = .ok (.return_, 1) := by decide +kernel
theorem d_Qu_addSpare_0 : decode M_Qu_addSpare.2.1 0 = .ok (.aload_n 0, 1) := by decide +kernel
theorem d_Qu_addSpare_1 : decode M_Qu_addSpare.2.1 1 = .ok (.getfield 11, 3) := by decide +kernel
theorem d_Qu_addSpare_4 : decode M_Qu_addSpare.2.1 4 = .ok (.aload_n 0, 1) := by decide +kernel
theorem d_Qu_addSpare_5 : decode M_Qu_addSpare.2.1 5 = .ok (.getfield 17, 3) := by decide +kernel
theorem d_Qu_addSpare_8 : decode M_Qu_addSpare.2.1 8 = .ok (.aaload, 1) := by decide +kernel
theorem d_Qu_addSpare_9 : decode M_Qu_addSpare.2.1 9 = .ok (.astore_n 1, 1) := by decide +kernel
theorem d_Qu_addSpare_10 : decode M_Qu_addSpare.2.1 10 = .ok (.aload_n 0, 1) := by decide +kernel
theorem d_Qu_addSpare_11 : decode M_Qu_addSpare.2.1 11 = .ok (.dup, 1) := by decide +kernel
theorem d_Qu_addSpare_12 : decode M_Qu_addSpare.2.1 12 = .ok (.getfield 17, 3) := by decide +kernel
theorem d_Qu_addSpare_15 : decode M_Qu_addSpare.2.1 15 = .ok (.iconst 1, 1) := by decide +kernel
theorem d_Qu_addSpare_16 : decode M_Qu_addSpare.2.1 16 = .ok (.iadd, 1) := by decide +kernel
theorem d_Qu_addSpare_17 : decode M_Qu_addSpare.2.1 17 = .ok (.putfield 17, 3) := by decide +kernel
theorem d_Qu_addSpare_20 : decode M_Qu_addSpare.2.1 20 = .ok (.aload_n 1, 1) := by decide +kernel
theorem d_Qu_addSpare_21 : decode M_Qu_addSpare.2.1 21 = .ok (.areturn, 1) := by decide +kernel
theorem d_Qu_removeAt_0 : decode M_Qu_removeAt.2.1 0 = .ok (.aload_n 0, 1) := by decide +kernel
theorem d_Qu_removeAt_1 : decode M_Qu_removeAt.2.1 1 = .ok (.getfield 11, 3) := by decide +kernel
theorem d_Qu_removeAt_4 : decode M_Qu_removeAt.2.1 4 = .ok (.iload_n 1, 1) := by decide +kernel
theorem d_Qu_removeAt_5 : decode M_Qu_removeAt.2.1 5 = .ok (.aaload, 1) := by decide +kernel
theorem d_Qu_removeAt_6 : decode M_Qu_removeAt.2.1 6 = .ok (.astore_n 2, 1) := by decide +kernel
theorem d_Qu_removeAt_7 : decode M_Qu_removeAt.2.1 7 = .ok (.iload_n 1, 1) := by decide +kernel
theorem d_Qu_removeAt_8 : decode M_Qu_removeAt.2.1 8 = .ok (.istore_n 3, 1) := by decide +kernel
theorem d_Qu_removeAt_9 : decode M_Qu_removeAt.2.1 9 = .ok (.iload_n 3, 1) := by decide +kernel
theorem d_Qu_removeAt_10 : decode M_Qu_removeAt.2.1 10 = .ok (.aload_n 0, 1) := by decide +kernel
theorem d_Qu_removeAt_11 : decode M_Qu_removeAt.2.1 11 = .ok (.getfield 17, 3) := by decide +kernel
theorem d_Qu_removeAt_14 : decode M_Qu_removeAt.2.1 14 = .ok (.iconst 1, 1) := by decide +kernel
theorem d_Qu_removeAt_15 : decode M_Qu_removeAt.2.1 15 = .ok (.isub, 1) := by decide +kernel
theorem d_Qu_removeAt_16 : decode M_Qu_removeAt.2.1 16 = .ok (.if_icmp .ge 23, 3) := by decide +kernel
theorem d_Qu_removeAt_19 : decode M_Qu_removeAt.2.1 19 = .ok (.aload_n 0, 1) := by decide +kernel
theorem d_Qu_removeAt_20 : decode M_Qu_removeAt.2.1 20 = .ok (.getfield 11, 3) := by decide +kernel
theorem d_Qu_removeAt_23 : decode M_Qu_removeAt.2.1 23 = .ok (.iload_n 3, 1) := by decide +kernel
theorem d_Qu_removeAt_24 : decode M_Qu_removeAt.2.1 24 = .ok (.aload_n 0, 1) := by decide +kernel
theorem d_Qu_removeAt_25 : decode M_Qu_removeAt.2.1 25 = .ok (.getfield 11, 3) := by decide +kernel
theorem d_Qu_removeAt_28 : decode M_Qu_removeAt.2.1 28 = .ok (.iload_n 3, 1) := by decide +kernel
theorem d_Qu_removeAt_29 : decode M_Qu_removeAt.2.1 29 = .ok (.iconst 1, 1) := by decide +kernel
theorem d_Qu_removeAt_30 : decode M_Qu_removeAt.2.1 30 = .ok (.iadd, 1) := by decide +kernel
theorem d_Qu_removeAt_31 : decode M_Qu_removeAt.2.1 31 = .ok (.aaload, 1) := by decide +kernel
theorem d_Qu_removeAt_32 : decode M_Qu_removeAt.2.1 32 = .ok (.aastore, 1) := by decide +kernel
theorem d_Qu_removeAt_33 : decode M_Qu_removeAt.2.1 33 = .ok (.iinc 3 1, 3) := by decide +kernel
theorem d_Qu_removeAt_36 : decode M_Qu_removeAt.2.1 36 = .ok (.goto (-27), 3) := by decide +kernel
theorem d_Qu_removeAt_39 : decode M_Qu_removeAt.2.1 39 = .ok (.aload_n 0, 1) := by decide +kernel
theorem d_Qu_removeAt_40 : decode M_Qu_removeAt.2.1 40 = .ok (.dup, 1) := by decide +kernel
theorem d_Qu_removeAt_41 : decode M_Qu_removeAt.2.1 41 = .ok (.getfield 17, 3) := by decide +kernel
theorem d_Qu_removeAt_44 : decode M_Qu_removeAt.2.1 44 = .ok (.iconst 1, 1) := by decide +kernel
theorem d_Qu_removeAt_45 : decode M_Qu_removeAt.2.1 45 = .ok (.isub, 1) := by decide +kernel
theorem d_Qu_removeAt_46 : decode M_Qu_removeAt.2.1 46 = .ok (.putfield 17, 3) := by decide +kernel
theorem d_Qu_removeAt_49 : decode M_Qu_removeAt.2.1 49 = .ok (.aload_n 0, 1) := by decide +kernel
theorem d_Qu_removeAt_50 : decode M_Qu_removeAt.2.1 50 = .ok (.getfield 11, 3) := by decide +kernel
theorem d_Qu_removeAt_53 : decode M_Qu_removeAt.2.1 53 = .ok (.aload_n 0, 1) := by decide +kernel
theorem d_Qu_removeAt_54 : decode M_Qu_removeAt.2.1 54 = .ok (.getfield 17, 3) := by decide +kernel
theorem d_Qu_removeAt_57 : decode M_Qu_removeAt.2.1 57 = .ok (.aload_n 2, 1) := by decide +kernel
theorem d_Qu_removeAt_58 : decode M_Qu_removeAt.2.1 58 = .ok (.aastore, 1) := by decide +kernel
theorem d_Qu_removeAt_59 : decode M_Qu_removeAt.2.1 59 = .ok (.return_, 1) := by decide +kernel
theorem d_Qu_indexOf_0 : decode M_Qu_indexOf.2.1 0 = .ok (.iconst 0, 1) := by decide +kernel
theorem d_Qu_indexOf_1 : decode M_Qu_indexOf.2.1 1 = .ok (.istore_n 2, 1) := by decide +kernel
theorem d_Qu_indexOf_2 : decode M_Qu_indexOf.2.1 2 = .ok (.iload_n 2, 1) := by decide +kernel
theorem d_Qu_indexOf_3 : decode M_Qu_indexOf.2.1 3 = .ok (.aload_n 0, 1) := by decide +kernel
theorem d_Qu_indexOf_4 : decode M_Qu_indexOf.2.1 4 = .ok (.getfield 17, 3) := by decide +kernel
theorem d_Qu_indexOf_7 : decode M_Qu_indexOf.2.1 7 = .ok (.if_icmp .ge 24, 3) := by decide +kernel
theorem d_Qu_indexOf_10 : decode M_Qu_indexOf.2.1 10 = .ok (.aload_n 0, 1) := by decide +kernel
theorem d_Qu_indexOf_11 : decode M_Qu_indexOf.2.1 11 = .ok (.getfield 11, 3) := by decide +kernel
theorem d_Qu_indexOf_14 : decode M_Qu_indexOf.2.1 14 = .ok (.iload_n 2, 1) := by decide +kernel
theorem d_Qu_indexOf_15 : decode M_Qu_indexOf.2.1 15 = .ok (.aaload, 1) := by decide +kernel
theorem d_Qu_indexOf_16 : decode M_Qu_indexOf.2.1 16 = .ok (.getfield 22, 3) := by decide +kernel
theorem d_Qu_indexOf_19 : decode M_Qu_indexOf.2.1 19 = .ok (.iload_n 1, 1) := by decide +kernel
theorem d_Qu_indexOf_20 : decode M_Qu_indexOf.2.1 20 = .ok (.if_icmp .ne 5, 3) := by decide +kernel
theorem d_Qu_indexOf_23 : decode M_Qu_indexOf.2.1 23 = .ok (.iload_n 2, 1) := by decide +kernel
theorem d_Qu_indexOf_24 : decode M_Qu_indexOf.2.1 24 = .ok (.ireturn, 1) := by decide +kernel
theorem d_Qu_indexOf_25 : decode M_Qu_indexOf.2.1 25 = .ok (.iinc 2 1, 3) := by decide +kernel
theorem d_Qu_indexOf_28 : decode M_Qu_indexOf.2.1 28 = .ok (.goto (-26), 3) := by decide +kernel
theorem d_Qu_indexOf_31 : decode M_Qu_indexOf.2.1 31 = .ok (.iconst (-1), 1) := by decide +kernel
theorem d_Qu_indexOf_32 : decode M_Qu_indexOf.2.1 32 = .ok (.ireturn, 1) := by decide +kernel
theorem d_Qu_costs_0 : decode M_Qu_costs.2.1 0 = .ok (.iconst 0, 1) := by decide +kernel
theorem d_Qu_costs_1 : decode M_Qu_costs.2.1 1 = .ok (.istore_n 1, 1) := by decide +kernel
theorem d_Qu_costs_2 : decode M_Qu_costs.2.1 2 = .ok (.iconst 0, 1) := by decide +kernel
theorem d_Qu_costs_3 : decode M_Qu_costs.2.1 3 = .ok (.istore_n 2, 1) := by decide +kernel
theorem d_Qu_costs_4 : decode M_Qu_costs.2.1 4 = .ok (.iload_n 2, 1) := by decide +kernel
theorem d_Qu_costs_5 : decode M_Qu_costs.2.1 5 = .ok (.aload_n 0, 1) := by decide +kernel
theorem d_Qu_costs_6 : decode M_Qu_costs.2.1 6 = .ok (.getfield 17, 3) := by decide +kernel
theorem d_Qu_costs_9 : decode M_Qu_costs.2.1 9 = .ok (.if_icmp .ge 36, 3) := by decide +kernel
theorem d_Qu_costs_12 : decode M_Qu_costs.2.1 12 = .ok (.iload_n 1, 1) := by decide +kernel
theorem d_Qu_costs_13 : decode M_Qu_costs.2.1 13 = .ok (.aload_n 0, 1) := by decide +kernel
theorem d_Qu_costs_14 : decode M_Qu_costs.2.1 14 = .ok (.getfield 11, 3) := by decide +kernel
theorem d_Qu_costs_17 : decode M_Qu_costs.2.1 17 = .ok (.iload_n 2, 1) := by decide +kernel
theorem d_Qu_costs_18 : decode M_Qu_costs.2.1 18 = .ok (.aaload, 1) := by decide +kernel
theorem d_Qu_costs_19 : decode M_Qu_costs.2.1 19 = .ok (.getfield 25, 3) := by decide +kernel
theorem d_Qu_costs_22 : decode M_Qu_costs.2.1 22 = .ok (.aload_n 0, 1) := by decide +kernel
theorem d_Qu_costs_23 : decode M_Qu_costs.2.1 23 = .ok (.getfield 11, 3) := by decide +kernel
theorem d_Qu_costs_26 : decode M_Qu_costs.2.1 26 = .ok (.iload_n 2, 1) := by decide +kernel
theorem d_Qu_costs_27 : decode M_Qu_costs.2.1 27 = .ok (.aaload, 1) := by decide +kernel
theorem d_Qu_costs_28 : decode M_Qu_costs.2.1 28 = .ok (.getfield 26, 3) := by decide +kernel
theorem d_Qu_costs_31 : decode M_Qu_costs.2.1 31 = .ok (.getfield 30, 3) := by decide +kernel
theorem d_Qu_costs_34 : decode M_Qu_costs.2.1 34 = .ok (.invokestatic 33, 3) := by decide +kernel
theorem d_Qu_costs_37 : decode M_Qu_costs.2.1 37 = .ok (.iadd, 1) := by decide +kernel
theorem d_Qu_costs_38 : decode M_Qu_costs.2.1 38 = .ok (.istore_n 1, 1) := by decide +kernel
theorem d_Qu_costs_39 : decode M_Qu_costs.2.1 39 = .ok (.iinc 2 1, 3) := by decide +kernel
theorem d_Qu_costs_42 : decode M_Qu_costs.2.1 42 = .ok (.goto (-38), 3) := by decide +kernel
theorem d_Qu_costs_45 : decode M_Qu_costs.2.1 45 = .ok (.iload_n 1, 1) := by decide +kernel
theorem d_Qu_costs_46 : decode M_Qu_costs.2.1 46 = .ok (.ireturn, 1) := by decide +kernel
theorem d_Qu_waitingRecipients_0 : decode M_Qu_waitingRecipients.2.1 0 = .ok (.iconst 0, 1) := by decide +kernel
theorem d_Qu_waitingRecipients_1 : decode M_Qu_waitingRecipients.2.1 1 = .ok (.istore_n 1, 1) := by decide +kernel
theorem d_Qu_waitingRecipients_2 : decode M_Qu_waitingRecipients.2.1 2 = .ok (.iconst 0, 1) := by decide +kernel
theorem d_Qu_waitingRecipients_3 : decode M_Qu_waitingRecipients.2.1 3 = .ok (.istore_n 2, 1) := by decide +kernel
theorem d_Qu_waitingRecipients_4 : decode M_Qu_waitingRecipients.2.1 4 = .ok (.iload_n 2, 1) := by decide +kernel
theorem d_Qu_waitingRecipients_5 : decode M_Qu_waitingRecipients.2.1 5 = .ok (.aload_n 0, 1) := by decide +kernel
theorem d_Qu_waitingRecipients_6 : decode M_Qu_waitingRecipients.2.1 6 = .ok (.getfield 17, 3) := by decide +kernel
theorem d_Qu_waitingRecipients_9 : decode M_Qu_waitingRecipients.2.1 9 = .ok (.if_icmp .ge 25, 3) := by decide +kernel
theorem d_Qu_waitingRecipients_12 : decode M_Qu_waitingRecipients.2.1 12 = .ok (.iload_n 1, 1) := by decide +kernel
theorem d_Qu_waitingRecipients_13 : decode M_Qu_waitingRecipients.2.1 13 = .ok (.aload_n 0, 1) := by decide +kernel
theorem d_Qu_waitingRecipients_14 : decode M_Qu_waitingRecipients.2.1 14 = .ok (.getfield 11, 3) := by decide +kernel
theorem d_Qu_waitingRecipients_17 : decode M_Qu_waitingRecipients.2.1 17 = .ok (.iload_n 2, 1) := by decide +kernel
theorem d_Qu_waitingRecipients_18 : decode M_Qu_waitingRecipients.2.1 18 = .ok (.aaload, 1) := by decide +kernel
theorem d_Qu_waitingRecipients_19 : decode M_Qu_waitingRecipients.2.1 19 = .ok (.getfield 26, 3) := by decide +kernel
theorem d_Qu_waitingRecipients_22 : decode M_Qu_waitingRecipients.2.1 22 = .ok (.iconst 1, 1) := by decide +kernel
theorem d_Qu_waitingRecipients_23 : decode M_Qu_waitingRecipients.2.1 23 = .ok (.invokevirtual 37, 3) := by decide +kernel
theorem d_Qu_waitingRecipients_26 : decode M_Qu_waitingRecipients.2.1 26 = .ok (.iadd, 1) := by decide +kernel
theorem d_Qu_waitingRecipients_27 : decode M_Qu_waitingRecipients.2.1 27 = .ok (.istore_n 1, 1) := by decide +kernel
theorem d_Qu_waitingRecipients_28 : decode M_Qu_waitingRecipients.2.1 28 = .ok (.iinc 2 1, 3) := by decide +kernel
theorem d_Qu_waitingRecipients_31 : decode M_Qu_waitingRecipients.2.1 31 = .ok (.goto (-27), 3) := by decide +kernel
theorem d_Qu_waitingRecipients_34 : decode M_Qu_waitingRecipients.2.1 34 = .ok (.iload_n 1, 1) := by decide +kernel
theorem d_Qu_waitingRecipients_35 : decode M_Qu_waitingRecipients.2.1 35 = .ok (.ireturn, 1) := by decide +kernel
theorem d_Qu_copyFrom_0 : decode M_Qu_copyFrom.2.1 0 = .ok (.iconst 0, 1) := by decide +kernel
theorem d_Qu_copyFrom_1 : decode M_Qu_copyFrom.2.1 1 = .ok (.istore_n 2, 1) := by decide +kernel
theorem d_Qu_copyFrom_2 : decode M_Qu_copyFrom.2.1 2 = .ok (.iload_n 2, 1) := by decide +kernel
theorem d_Qu_copyFrom_3 : decode M_Qu_copyFrom.2.1 3 = .ok (.aload_n 1, 1) := by decide +kernel
theorem d_Qu_copyFrom_4 : decode M_Qu_copyFrom.2.1 4 = .ok (.getfield 17, 3) := by decide +kernel
theorem d_Qu_copyFrom_7 : decode M_Qu_copyFrom.2.1 7 = .ok (.if_icmp .ge 24, 3) := by decide +kernel
theorem d_Qu_copyFrom_10 : decode M_Qu_copyFrom.2.1 10 = .ok (.aload_n 0, 1) := by decide +kernel
theorem d_Qu_copyFrom_11 : decode M_Qu_copyFrom.2.1 11 = .ok (.getfield 11, 3) := by decide +kernel
theorem d_Qu_copyFrom_14 : decode M_Qu_copyFrom.2.1 14 = .ok (.iload_n 2, 1) := by decide +kernel
theorem d_Qu_copyFrom_15 : decode M_Qu_copyFrom.2.1 15 = .ok (.aaload, 1) := by decide +kernel
theorem d_Qu_copyFrom_16 : decode M_Qu_copyFrom.2.1 16 = .ok (.aload_n 1, 1) := by decide +kernel
theorem d_Qu_copyFrom_17 : decode M_Qu_copyFrom.2.1 17 = .ok (.getfield 11, 3) := by decide +kernel
theorem d_Qu_copyFrom_20 : decode M_Qu_copyFrom.2.1 20 = .ok (.iload_n 2, 1) := by decide +kernel
theorem d_Qu_copyFrom_21 : decode M_Qu_copyFrom.2.1 21 = .ok (.aaload, 1) := by decide +kernel
theorem d_Qu_copyFrom_22 : decode M_Qu_copyFrom.2.1 22 = .ok (.invokevirtual 41, 3) := by decide +kernel
theorem d_Qu_copyFrom_25 : decode M_Qu_copyFrom.2.1 25 = .ok (.iinc 2 1, 3) := by decide +kernel
theorem d_Qu_copyFrom_28 : decode M_Qu_copyFrom.2.1 28 = .ok (.goto (-26), 3) := by decide +kernel
theorem d_Qu_copyFrom_31 : decode M_Qu_copyFrom.2.1 31 = .ok (.aload_n 0, 1) := by decide +kernel
theorem d_Qu_copyFrom_32 : decode M_Qu_copyFrom.2.1 32 = .ok (.aload_n 1, 1) := by decide +kernel
theorem d_Qu_copyFrom_33 : decode M_Qu_copyFrom.2.1 33 = .ok (.getfield 17, 3) := by decide +kernel
theorem d_Qu_copyFrom_36 : decode M_Qu_copyFrom.2.1 36 = .ok (.putfield 17, 3) := by decide +kernel
theorem d_Qu_copyFrom_39 : decode M_Qu_copyFrom.2.1 39 = .ok (.return_, 1) := by decide +kernel
theorem d_Re_init_0 : decode M_Re_init.2.1 0 = .ok (.aload_n 0, 1) := by decide +kernel
theorem d_Re_init_1 : decode M_Re_init.2.1 1 = .ok (.invokespecial 3, 3) := by decide +kernel
theorem d_Re_init_4 : decode M_Re_init.2.1 4 = .ok (.aload_n 0, 1) := by decide +kernel
theorem d_Re_init_5 : decode M_Re_init.2.1 5 = .ok (.iconst 4, 1) := by decide +kernel
theorem d_Re_init_6 : decode M_Re_init.2.1 6 = .ok (.newarray .int, 2) := by decide +kernel
theorem d_Re_init_8 : decode M_Re_init.2.1 8 = .ok (.putfield 9, 3) := by decide +kernel
theorem d_Re_init_11 : decode M_Re_init.2.1 11 = .ok (.aload_n 0, 1) := by decide +kernel
theorem d_Re_init_12 : decode M_Re_init.2.1 12 = .ok (.iconst 4, 1) := by decide +kernel
theorem d_Re_init_13 : decode M_Re_init.2.1 13 = .ok (.newarray .int, 2) := by decide +kernel
theorem d_Re_init_15 : decode M_Re_init.2.1 15 = .ok (.putfield 15, 3) := by decide +kernel
theorem d_Re_init_18 : decode M_Re_init.2.1 18 = .ok (.aload_n 0, 1) := by decide +kernel
theorem d_Re_init_19 : decode M_Re_init.2.1 19 = .ok (.iconst 0, 1) := by decide +kernel
theorem d_Re_init_20 : decode M_Re_init.2.1 20 = .ok (.putfield 18, 3) := by decide +kernel
theorem d_Re_init_23 : decode M_Re_init.2.1 23 = .ok (.return_, 1) := by decide +kernel
theorem d_Re_add_0 : decode M_Re_add.2.1 0 = .ok (.aload_n 0, 1) := by decide +kernel
theorem d_Re_add_1 : decode M_Re_add.2.1 1 = .ok (.getfield 18, 3) := by decide +kernel
theorem d_Re_add_4 : decode M_Re_add.2.1 4 = .ok (.iconst 4, 1) := by decide +kernel
theorem d_Re_add_5 : decode M_Re_add.2.1 5 = .ok (.if_icmp .ge 33, 3) := by decide +kernel
theorem d_Re_add_8 : decode M_Re_add.2.1 8 = .ok (.aload_n 0, 1) := by decide +kernel
theorem d_Re_add_9 : decode M_Re_add.2.1 9 = .ok (.getfield 9, 3) := by decide +kernel
theorem d_Re_add_12 : decode M_Re_add.2.1 12 = .ok (.aload_n 0, 1) := by decide +kernel
theorem d_Re_add_13 : decode M_Re_add.2.1 13 = .ok (.getfield 18, 3) := by decide +kernel
theorem d_Re_add_16 : decode M_Re_add.2.1 16 = .ok (.iload_n 1, 1) := by decide +kernel
theorem d_Re_add_17 : decode M_Re_add.2.1 17 = .ok (.iastore, 1) := by decide +kernel
theorem d_Re_add_18 : decode M_Re_add.2.1 18 = .ok (.aload_n 0, 1) := by decide +kernel
theorem d_Re_add_19 : decode M_Re_add.2.1 19 = .ok (.getfield 15, 3) := by decide +kernel
theorem d_Re_add_22 : decode M_Re_add.2.1 22 = .ok (.aload_n 0, 1) := by decide +kernel
theorem d_Re_add_23 : decode M_Re_add.2.1 23 = .ok (.getfield 18, 3) := by decide +kernel
theorem d_Re_add_26 : decode M_Re_add.2.1 26 = .ok (.iconst 1, 1) := by decide +kernel
theorem d_Re_add_27 : decode M_Re_add.2.1 27 = .ok (.iastore, 1) := by decide +kernel
theorem d_Re_add_28 : decode M_Re_add.2.1 28 = .ok (.aload_n 0, 1) := by decide +kernel
theorem d_Re_add_29 : decode M_Re_add.2.1 29 = .ok (.dup, 1) := by decide +kernel
theorem d_Re_add_30 : decode M_Re_add.2.1 30 = .ok (.getfield 18, 3) := by decide +kernel
theorem d_Re_add_33 : decode M_Re_add.2.1 33 = .ok (.iconst 1, 1) := by decide +kernel
theorem d_Re_add_34 : decode M_Re_add.2.1 34 = .ok (.iadd, 1) := by decide +kernel
theorem d_Re_add_35 : decode M_Re_add.2.1 35 = .ok (.putfield 18, 3) := by decide +kernel
theorem d_Re_add_38 : decode M_Re_add.2.1 38 = .ok (.return_, 1) := by decide +kernel
theorem d_Re_addRising_0 : decode M_Re_addRising.2.1 0 = .ok (.iconst 0, 1) := by decide +kernel
theorem d_Re_addRising_1 : decode M_Re_addRising.2.1 1 = .ok (.istore_n 3, 1) := by decide +kernel
theorem d_Re_addRising_2 : decode M_Re_addRising.2.1 2 = .ok (.iload_n 3, 1) := by decide +kernel
theorem d_Re_addRising_3 : decode M_Re_addRising.2.1 3 = .ok (.bipush 64, 2) := by decide +kernel
theorem d_Re_addRising_5 : decode M_Re_addRising.2.1 5 = .ok (.if_icmp .ge 24, 3) := by decide +kernel
theorem d_Re_addRising_8 : decode M_Re_addRising.2.1 8 = .ok (.lload_n 1, 1) := by decide +kernel
theorem d_Re_addRising_9 : decode M_Re_addRising.2.1 9 = .ok (.lconst 1, 1) := by decide +kernel
theorem d_Re_addRising_10 : decode M_Re_addRising.2.1 10 = .ok (.iload_n 3, 1) := by decide +kernel
theorem d_Re_addRising_11 : decode M_Re_addRising.2.1 11 = .ok (.lshl, 1) := by decide +kernel
theorem d_Re_addRising_12 : decode M_Re_addRising.2.1 12 = .ok (.land, 1) := by decide +kernel
theorem d_Re_addRising_13 : decode M_Re_addRising.2.1 13 = .ok (.lconst 0, 1) := by decide +kernel
theorem d_Re_addRising_14 : decode M_Re_addRising.2.1 14 = .ok (.lcmp, 1) := by decide +kernel
theorem d_Re_addRising_15 : decode M_Re_addRising.2.1 15 = .ok (.ifCond .eq 8, 3) := by decide +kernel
theorem d_Re_addRising_18 : decode M_Re_addRising.2.1 18 = .ok (.aload_n 0, 1) := by decide +kernel
theorem d_Re_addRising_19 : decode M_Re_addRising.2.1 19 = .ok (.iload_n 3, 1) := by decide +kernel
theorem d_Re_addRising_20 : decode M_Re_addRising.2.1 20 = .ok (.invokevirtual 22, 3) := by decide +kernel
theorem d_Re_addRising_23 : decode M_Re_addRising.2.1 23 = .ok (.iinc 3 1, 3) := by decide +kernel
theorem d_Re_addRising_26 : decode M_Re_addRising.2.1 26 = .ok (.goto (-24), 3) := by decide +kernel
theorem d_Re_addRising_29 : decode M_Re_addRising.2.1 29 = .ok (.return_, 1) := by decide +kernel
theorem d_Re_asBits_0 : decode M_Re_asBits.2.1 0 = .ok (.lconst 0, 1) := by decide +kernel
theorem d_Re_asBits_1 : decode M_Re_asBits.2.1 1 = .ok (.lstore_n 1, 1) := by decide +kernel
theorem d_Re_asBits_2 : decode M_Re_asBits.2.1 2 = .ok (.iconst 0, 1) := by decide +kernel
theorem d_Re_asBits_3 : decode M_Re_asBits.2.1 3 = .ok (.istore_n 3, 1) := by decide +kernel
theorem d_Re_asBits_4 : decode M_Re_asBits.2.1 4 = .ok (.iload_n 3, 1) := by decide +kernel
theorem d_Re_asBits_5 : decode M_Re_asBits.2.1 5 = .ok (.aload_n 0, 1) := by decide +kernel
theorem d_Re_asBits_6 : decode M_Re_asBits.2.1 6 = .ok (.getfield 18, 3) := by decide +kernel
theorem d_Re_asBits_9 : decode M_Re_asBits.2.1 9 = .ok (.if_icmp .ge 20, 3) := by decide +kernel
theorem d_Re_asBits_12 : decode M_Re_asBits.2.1 12 = .ok (.lload_n 1, 1) := by decide +kernel
theorem d_Re_asBits_13 : decode M_Re_asBits.2.1 13 = .ok (.lconst 1, 1) := by decide +kernel
theorem d_Re_asBits_14 : decode M_Re_asBits.2.1 14 = .ok (.aload_n 0, 1) := by decide +kernel
theorem d_Re_asBits_15 : decode M_Re_asBits.2.1 15 = .ok (.getfield 9, 3) := by decide +kernel
theorem d_Re_asBits_18 : decode M_Re_asBits.2.1 18 = .ok (.iload_n 3, 1) := by decide +kernel
theorem d_Re_asBits_19 : decode M_Re_asBits.2.1 19 = .ok (.iaload, 1) := by decide +kernel
theorem d_Re_asBits_20 : decode M_Re_asBits.2.1 20 = .ok (.lshl, 1) := by decide +kernel
theorem d_Re_asBits_21 : decode M_Re_asBits.2.1 21 = .ok (.lor, 1) := by decide +kernel
theorem d_Re_asBits_22 : decode M_Re_asBits.2.1 22 = .ok (.lstore_n 1, 1) := by decide +kernel
theorem d_Re_asBits_23 : decode M_Re_asBits.2.1 23 = .ok (.iinc 3 1, 3) := by decide +kernel
theorem d_Re_asBits_26 : decode M_Re_asBits.2.1 26 = .ok (.goto (-22), 3) := by decide +kernel
theorem d_Re_asBits_29 : decode M_Re_asBits.2.1 29 = .ok (.lload_n 1, 1) := by decide +kernel
theorem d_Re_asBits_30 : decode M_Re_asBits.2.1 30 = .ok (.lreturn, 1) := by decide +kernel
theorem d_Re_stateOf_0 : decode M_Re_stateOf.2.1 0 = .ok (.iconst 0, 1) := by decide +kernel
theorem d_Re_stateOf_1 : decode M_Re_stateOf.2.1 1 = .ok (.istore_n 2, 1) := by decide +kernel
theorem d_Re_stateOf_2 : decode M_Re_stateOf.2.1 2 = .ok (.iload_n 2, 1) := by decide +kernel
theorem d_Re_stateOf_3 : decode M_Re_stateOf.2.1 3 = .ok (.aload_n 0, 1) := by decide +kernel
theorem d_Re_stateOf_4 : decode M_Re_stateOf.2.1 4 = .ok (.getfield 18, 3) := by decide +kernel
theorem d_Re_stateOf_7 : decode M_Re_stateOf.2.1 7 = .ok (.if_icmp .ge 26, 3) := by decide +kernel
theorem d_Re_stateOf_10 : decode M_Re_stateOf.2.1 10 = .ok (.aload_n 0, 1) := by decide +kernel
theorem d_Re_stateOf_11 : decode M_Re_stateOf.2.1 11 = .ok (.getfield 9, 3) := by decide +kernel
theorem d_Re_stateOf_14 : decode M_Re_stateOf.2.1 14 = .ok (.iload_n 2, 1) := by decide +kernel
theorem d_Re_stateOf_15 : decode M_Re_stateOf.2.1 15 = .ok (.iaload, 1) := by decide +kernel
theorem d_Re_stateOf_16 : decode M_Re_stateOf.2.1 16 = .ok (.iload_n 1, 1) := by decide +kernel
theorem d_Re_stateOf_17 : decode M_Re_stateOf.2.1 17 = .ok (.if_icmp .ne 10, 3) := by decide +kernel
theorem d_Re_stateOf_20 : decode M_Re_stateOf.2.1 20 = .ok (.aload_n 0, 1) := by decide +kernel
theorem d_Re_stateOf_21 : decode M_Re_stateOf.2.1 21 = .ok (.getfield 15, 3) := by decide +kernel
theorem d_Re_stateOf_24 : decode M_Re_stateOf.2.1 24 = .ok (.iload_n 2, 1) := by decide +kernel
theorem d_Re_stateOf_25 : decode M_Re_stateOf.2.1 25 = .ok (.iaload, 1) := by decide +kernel
theorem d_Re_stateOf_26 : decode M_Re_stateOf.2.1 26 = .ok (.ireturn, 1) := by decide +kernel
theorem d_Re_stateOf_27 : decode M_Re_stateOf.2.1 27 = .ok (.iinc 2 1, 3) := by decide +kernel
theorem d_Re_stateOf_30 : decode M_Re_stateOf.2.1 30 = .ok (.goto (-28), 3) := by decide +kernel
theorem d_Re_stateOf_33 : decode M_Re_stateOf.2.1 33 = .ok (.iconst 0, 1) := by decide +kernel
theorem d_Re_stateOf_34 : decode M_Re_stateOf.2.1 34 = .ok (.ireturn, 1) := by decide +kernel
theorem d_Re_inState_0 : decode M_Re_inState.2.1 0 = .ok (.iconst 0, 1) := by decide +kernel
theorem d_Re_inState_1 : decode M_Re_inState.2.1 1 = .ok (.istore_n 2, 1) := by decide +kernel
theorem d_Re_inState_2 : decode M_Re_inState.2.1 2 = .ok (.iconst 0, 1) := by decide +kernel
theorem d_Re_inState_3 : decode M_Re_inState.2.1 3 = .ok (.istore_n 3, 1) := by decide +kernel
theorem d_Re_inState_4 : decode M_Re_inState.2.1 4 = .ok (.iload_n 3, 1) := by decide +kernel
theorem d_Re_inState_5 : decode M_Re_inState.2.1 5 = .ok (.aload_n 0, 1) := by decide +kernel
theorem d_Re_inState_6 : decode M_Re_inState.2.1 6 = .ok (.getfield 18, 3) := by decide +kernel
theorem d_Re_inState_9 : decode M_Re_inState.2.1 9 = .ok (.if_icmp .ge 22, 3) := by decide +kernel
theorem d_Re_inState_12 : decode M_Re_inState.2.1 12 = .ok (.aload_n 0, 1) := by decide +kernel
theorem d_Re_inState_13 : decode M_Re_inState.2.1 13 = .ok (.getfield 15, 3) := by decide +kernel
theorem d_Re_inState_16 : decode M_Re_inState.2.1 16 = .ok (.iload_n 3, 1) := by decide +kernel
theorem d_Re_inState_17 : decode M_Re_inState.2.1 17 = .ok (.iaload, 1) := by decide +kernel
theorem d_Re_inState_18 : decode M_Re_inState.2.1 18 = .ok (.iload_n 1, 1) := by decide +kernel
theorem d_Re_inState_19 : decode M_Re_inState.2.1 19 = .ok (.if_icmp .ne 6, 3) := by decide +kernel
theorem d_Re_inState_22 : decode M_Re_inState.2.1 22 = .ok (.iinc 2 1, 3) := by decide +kernel
theorem d_Re_inState_25 : decode M_Re_inState.2.1 25 = .ok (.iinc 3 1, 3) := by decide +kernel
theorem d_Re_inState_28 : decode M_Re_inState.2.1 28 = .ok (.goto (-24), 3) := by decide +kernel
theorem d_Re_inState_31 : decode M_Re_inState.2.1 31 = .ok (.iload_n 2, 1) := by decide +kernel
theorem d_Re_inState_32 : decode M_Re_inState.2.1 32 = .ok (.ireturn, 1) := by decide +kernel
theorem d_Re_failWaiting_0 : decode M_Re_failWaiting.2.1 0 = .ok (.iconst 0, 1) := by decide +kernel
theorem d_Re_failWaiting_1 : decode M_Re_failWaiting.2.1 1 = .ok (.istore_n 1, 1) := by decide +kernel
theorem d_Re_failWaiting_2 : decode M_Re_failWaiting.2.1 2 = .ok (.iconst 0, 1) := by decide +kernel
theorem d_Re_failWaiting_3 : decode M_Re_failWaiting.2.1 3 = .ok (.istore_n 2, 1) := by decide +kernel
theorem d_Re_failWaiting_4 : decode M_Re_failWaiting.2.1 4 = .ok (.iload_n 2, 1) := by decide +kernel
theorem d_Re_failWaiting_5 : decode M_Re_failWaiting.2.1 5 = .ok (.aload_n 0, 1) := by decide +kernel
theorem d_Re_failWaiting_6 : decode M_Re_failWaiting.2.1 6 = .ok (.getfield 18, 3) := by decide +kernel
theorem d_Re_failWaiting_9 : decode M_Re_failWaiting.2.1 9 = .ok (.if_icmp .ge 29, 3) := by decide +kernel
theorem d_Re_failWaiting_12 : decode M_Re_failWaiting.2.1 12 = .ok (.aload_n 0, 1) := by decide +kernel
theorem d_Re_failWaiting_13 : decode M_Re_failWaiting.2.1 13 = .ok (.getfield 15, 3) := by decide +kernel
theorem d_Re_failWaiting_16 : decode M_Re_failWaiting.2.1 16 = .ok (.iload_n 2, 1) := by decide +kernel
theorem d_Re_failWaiting_17 : decode M_Re_failWaiting.2.1 17 = .ok (.iaload, 1) := by decide +kernel
theorem d_Re_failWaiting_18 : decode M_Re_failWaiting.2.1 18 = .ok (.iconst 1, 1) := by decide +kernel
theorem d_Re_failWaiting_19 : decode M_Re_failWaiting.2.1 19 = .ok (.if_icmp .ne 13, 3) := by decide +kernel
theorem d_Re_failWaiting_22 : decode M_Re_failWaiting.2.1 22 = .ok (.aload_n 0, 1) := by decide +kernel
theorem d_Re_failWaiting_23 : decode M_Re_failWaiting.2.1 23 = .ok (.getfield 15, 3) := by decide +kernel
theorem d_Re_failWaiting_26 : decode M_Re_failWaiting.2.1 26 = .ok (.iload_n 2, 1) := by decide +kernel
theorem d_Re_failWaiting_27 : decode M_Re_failWaiting.2.1 27 = .ok (.iconst 3, 1) := by decide +kernel
theorem d_Re_failWaiting_28 : decode M_Re_failWaiting.2.1 28 = .ok (.iastore, 1) := by decide +kernel
theorem d_Re_failWaiting_29 : decode M_Re_failWaiting.2.1 29 = .ok (.iinc 1 1, 3) := by decide +kernel
theorem d_Re_failWaiting_32 : decode M_Re_failWaiting.2.1 32 = .ok (.iinc 2 1, 3) := by decide +kernel
theorem d_Re_failWaiting_35 : decode M_Re_failWaiting.2.1 35 = .ok (.goto (-31), 3) := by decide +kernel
theorem d_Re_failWaiting_38 : decode M_Re_failWaiting.2.1 38 = .ok (.iload_n 1, 1) := by decide +kernel
theorem d_Re_failWaiting_39 : decode M_Re_failWaiting.2.1 39 = .ok (.ireturn, 1) := by decide +kernel
theorem d_Re_copyFrom_0 : decode M_Re_copyFrom.2.1 0 = .ok (.iconst 0, 1) := by decide +kernel
theorem d_Re_copyFrom_1 : decode M_Re_copyFrom.2.1 1 = .ok (.istore_n 2, 1) := by decide +kernel
theorem d_Re_copyFrom_2 : decode M_Re_copyFrom.2.1 2 = .ok (.iload_n 2, 1) := by decide +kernel
theorem d_Re_copyFrom_3 : decode M_Re_copyFrom.2.1 3 = .ok (.aload_n 1, 1) := by decide +kernel
theorem d_Re_copyFrom_4 : decode M_Re_copyFrom.2.1 4 = .ok (.getfield 18, 3) := by decide +kernel
theorem d_Re_copyFrom_7 : decode M_Re_copyFrom.2.1 7 = .ok (.if_icmp .ge 33, 3) := by decide +kernel
theorem d_Re_copyFrom_10 : decode M_Re_copyFrom.2.1 10 = .ok (.aload_n 0, 1) := by decide +kernel
theorem d_Re_copyFrom_11 : decode M_Re_copyFrom.2.1 11 = .ok (.getfield 9, 3) := by decide +kernel
theorem d_Re_copyFrom_14 : decode M_Re_copyFrom.2.1 14 = .ok (.iload_n 2, 1) := by decide +kernel
theorem d_Re_copyFrom_15 : decode M_Re_copyFrom.2.1 15 = .ok (.aload_n 1, 1) := by decide +kernel
theorem d_Re_copyFrom_16 : decode M_Re_copyFrom.2.1 16 = .ok (.getfield 9, 3) := by decide +kernel
theorem d_Re_copyFrom_19 : decode M_Re_copyFrom.2.1 19 = .ok (.iload_n 2, 1) := by decide +kernel
theorem d_Re_copyFrom_20 : decode M_Re_copyFrom.2.1 20 = .ok (.iaload, 1) := by decide +kernel
theorem d_Re_copyFrom_21 : decode M_Re_copyFrom.2.1 21 = .ok (.iastore, 1) := by decide +kernel
theorem d_Re_copyFrom_22 : decode M_Re_copyFrom.2.1 22 = .ok (.aload_n 0, 1) := by decide +kernel
theorem d_Re_copyFrom_23 : decode M_Re_copyFrom.2.1 23 = .ok (.getfield 15, 3) := by decide +kernel
theorem d_Re_copyFrom_26 : decode M_Re_copyFrom.2.1 26 = .ok (.iload_n 2, 1) := by decide +kernel
theorem d_Re_copyFrom_27 : decode M_Re_copyFrom.2.1 27 = .ok (.aload_n 1, 1) := by decide +kernel
theorem d_Re_copyFrom_28 : decode M_Re_copyFrom.2.1 28 = .ok (.getfield 15, 3) := by decide +kernel
theorem d_Re_copyFrom_31 : decode M_Re_copyFrom.2.1 31 = .ok (.iload_n 2, 1) := by decide +kernel
theorem d_Re_copyFrom_32 : decode M_Re_copyFrom.2.1 32 = .ok (.iaload, 1) := by decide +kernel
theorem d_Re_copyFrom_33 : decode M_Re_copyFrom.2.1 33 = .ok (.iastore, 1) := by decide +kernel
theorem d_Re_copyFrom_34 : decode M_Re_copyFrom.2.1 34 = .ok (.iinc 2 1, 3) := by decide +kernel
theorem d_Re_copyFrom_37 : decode M_Re_copyFrom.2.1 37 = .ok (.goto (-35), 3) := by decide +kernel
theorem d_Re_copyFrom_40 : decode M_Re_copyFrom.2.1 40 = .ok (.aload_n 0, 1) := by decide +kernel
theorem d_Re_copyFrom_41 : decode M_Re_copyFrom.2.1 41 = .ok (.aload_n 1, 1) := by decide +kernel
theorem d_Re_copyFrom_42 : decode M_Re_copyFrom.2.1 42 = .ok (.getfield 18, 3) := by decide +kernel
theorem d_Re_copyFrom_45 : decode M_Re_copyFrom.2.1 45 = .ok (.putfield 18, 3) := by decide +kernel
theorem d_Re_copyFrom_48 : decode M_Re_copyFrom.2.1 48 = .ok (.return_, 1) := by decide +kernel
theorem d_Ro_init_0 : decode M_Ro_init.2.1 0 = .ok (.aload_n 0, 1) := by decide +kernel
theorem d_Ro_init_1 : decode M_Ro_init.2.1 1 = .ok (.invokespecial 3, 3) := by decide +kernel
theorem d_Ro_init_4 : decode M_Ro_init.2.1 4 = .ok (.aload_n 0, 1) := by decide +kernel
theorem d_Ro_init_5 : decode M_Ro_init.2.1 5 = .ok (.iconst 3, 1) := by decide +kernel
theorem d_Ro_init_6 : decode M_Ro_init.2.1 6 = .ok (.newarray .int, 2) := by decide +kernel
theorem d_Ro_init_8 : decode M_Ro_init.2.1 8 = .ok (.putfield 9, 3) := by decide +kernel
theorem d_Ro_init_11 : decode M_Ro_init.2.1 11 = .ok (.aload_n 0, 1) := by decide +kernel
theorem d_Ro_init_12 : decode M_Ro_init.2.1 12 = .ok (.iconst 3, 1) := by decide +kernel
theorem d_Ro_init_13 : decode M_Ro_init.2.1 13 = .ok (.newarray .int, 2) := by decide +kernel
theorem d_Ro_init_15 : decode M_Ro_init.2.1 15 = .ok (.putfield 15, 3) := by decide +kernel
theorem d_Ro_init_18 : decode M_Ro_init.2.1 18 = .ok (.aload_n 0, 1) := by decide +kernel
theorem d_Ro_init_19 : decode M_Ro_init.2.1 19 = .ok (.iconst 0, 1) := by decide +kernel
theorem d_Ro_init_20 : decode M_Ro_init.2.1 20 = .ok (.putfield 18, 3) := by decide +kernel
theorem d_Ro_init_23 : decode M_Ro_init.2.1 23 = .ok (.return_, 1) := by decide +kernel
theorem d_Ro_hasRoomFor_0 : decode M_Ro_hasRoomFor.2.1 0 = .ok (.iconst 0, 1) := by decide +kernel
theorem d_Ro_hasRoomFor_1 : decode M_Ro_hasRoomFor.2.1 1 = .ok (.istore_n 2, 1) := by decide +kernel
theorem d_Ro_hasRoomFor_2 : decode M_Ro_hasRoomFor.2.1 2 = .ok (.iload_n 2, 1) := by decide +kernel
theorem d_Ro_hasRoomFor_3 : decode M_Ro_hasRoomFor.2.1 3 = .ok (.aload_n 0, 1) := by decide +kernel
theorem d_Ro_hasRoomFor_4 : decode M_Ro_hasRoomFor.2.1 4 = .ok (.getfield 18, 3) := by decide +kernel
theorem d_Ro_hasRoomFor_7 : decode M_Ro_hasRoomFor.2.1 7 = .ok (.if_icmp .ge 21, 3) := by decide +kernel
theorem d_Ro_hasRoomFor_10 : decode M_Ro_hasRoomFor.2.1 10 = .ok (.aload_n 0, 1) := by decide +kernel
theorem d_Ro_hasRoomFor_11 : decode M_Ro_hasRoomFor.2.1 11 = .ok (.getfield 9, 3) := by decide +kernel
theorem d_Ro_hasRoomFor_14 : decode M_Ro_hasRoomFor.2.1 14 = .ok (.iload_n 2, 1) := by decide +kernel
theorem d_Ro_hasRoomFor_15 : decode M_Ro_hasRoomFor.2.1 15 = .ok (.iaload, 1) := by decide +kernel
theorem d_Ro_hasRoomFor_16 : decode M_Ro_hasRoomFor.2.1 16 = .ok (.iload_n 1, 1) := by decide +kernel
theorem d_Ro_hasRoomFor_17 : decode M_Ro_hasRoomFor.2.1 17 = .ok (.if_icmp .ne 5, 3) := by decide +kernel
theorem d_Ro_hasRoomFor_20 : decode M_Ro_hasRoomFor.2.1 20 = .ok (.iconst 0, 1) := by decide +kernel
theorem d_Ro_hasRoomFor_21 : decode M_Ro_hasRoomFor.2.1 21 = .ok (.ireturn, 1) := by decide +kernel
theorem d_Ro_hasRoomFor_22 : decode M_Ro_hasRoomFor.2.1 22 = .ok (.iinc 2 1, 3) := by decide +kernel
theorem d_Ro_hasRoomFor_25 : decode M_Ro_hasRoomFor.2.1 25 = .ok (.goto (-23), 3) := by decide +kernel
theorem d_Ro_hasRoomFor_28 : decode M_Ro_hasRoomFor.2.1 28 = .ok (.aload_n 0, 1) := by decide +kernel
theorem d_Ro_hasRoomFor_29 : decode M_Ro_hasRoomFor.2.1 29 = .ok (.getfield 18, 3) := by decide +kernel
theorem d_Ro_hasRoomFor_32 : decode M_Ro_hasRoomFor.2.1 32 = .ok (.iconst 3, 1) := by decide +kernel
theorem d_Ro_hasRoomFor_33 : decode M_Ro_hasRoomFor.2.1 33 = .ok (.if_icmp .ge 7, 3) := by decide +kernel
theorem d_Ro_hasRoomFor_36 : decode M_Ro_hasRoomFor.2.1 36 = .ok (.iconst 1, 1) := by decide +kernel
theorem d_Ro_hasRoomFor_37 : decode M_Ro_hasRoomFor.2.1 37 = .ok (.goto 4, 3) := by decide +kernel
theorem d_Ro_hasRoomFor_40 : decode M_Ro_hasRoomFor.2.1 40 = .ok (.iconst 0, 1) := by decide +kernel
theorem d_Ro_hasRoomFor_41 : decode M_Ro_hasRoomFor.2.1 41 = .ok (.ireturn, 1) := by decide +kernel
theorem d_Ro_add_0 : decode M_Ro_add.2.1 0 = .ok (.aload_n 0, 1) := by decide +kernel
theorem d_Ro_add_1 : decode M_Ro_add.2.1 1 = .ok (.getfield 18, 3) := by decide +kernel
theorem d_Ro_add_4 : decode M_Ro_add.2.1 4 = .ok (.istore_n 3, 1) := by decide +kernel
theorem d_Ro_add_5 : decode M_Ro_add.2.1 5 = .ok (.iload_n 3, 1) := by decide +kernel
theorem d_Ro_add_6 : decode M_Ro_add.2.1 6 = .ok (.ifCond .le 49, 3) := by decide +kernel
theorem d_Ro_add_9 : decode M_Ro_add.2.1 9 = .ok (.aload_n 0, 1) := by decide +kernel
theorem d_Ro_add_10 : decode M_Ro_add.2.1 10 = .ok (.getfield 15, 3) := by decide +kernel
theorem d_Ro_add_13 : decode M_Ro_add.2.1 13 = .ok (.iload_n 3, 1) := by decide +kernel
theorem d_Ro_add_14 : decode M_Ro_add.2.1 14 = .ok (.iconst 1, 1) := by decide +kernel
theorem d_Ro_add_15 : decode M_Ro_add.2.1 15 = .ok (.isub, 1) := by decide +kernel
theorem d_Ro_add_16 : decode M_Ro_add.2.1 16 = .ok (.iaload, 1) := by decide +kernel
theorem d_Ro_add_17 : decode M_Ro_add.2.1 17 = .ok (.iload_n 2, 1) := by decide +kernel
theorem d_Ro_add_18 : decode M_Ro_add.2.1 18 = .ok (.if_icmp .le 37, 3) := by decide +kernel
theorem d_Ro_add_21 : decode M_Ro_add.2.1 21 = .ok (.aload_n 0, 1) := by decide +kernel
theorem d_Ro_add_22 : decode M_Ro_add.2.1 22 = .ok (.getfield 9, 3) := by decide +kernel
theorem d_Ro_add_25 : decode M_Ro_add.2.1 25 = .ok (.iload_n 3, 1) := by decide +kernel
theorem d_Ro_add_26 : decode M_Ro_add.2.1 26 = .ok (.aload_n 0, 1) := by decide +kernel
theorem d_Ro_add_27 : decode M_Ro_add.2.1 27 = .ok (.getfield 9, 3) := by decide +kernel
theorem d_Ro_add_30 : decode M_Ro_add.2.1 30 = .ok (.iload_n 3, 1) := by decide +kernel
theorem d_Ro_add_31 : decode M_Ro_add.2.1 31 = .ok (.iconst 1, 1) := by decide +kernel
theorem d_Ro_add_32 : decode M_Ro_add.2.1 32 = .ok (.isub, 1) := by decide +kernel
theorem d_Ro_add_33 : decode M_Ro_add.2.1 33 = .ok (.iaload, 1) := by decide +kernel
theorem d_Ro_add_34 : decode M_Ro_add.2.1 34 = .ok (.iastore, 1) := by decide +kernel
theorem d_Ro_add_35 : decode M_Ro_add.2.1 35 = .ok (.aload_n 0, 1) := by decide +kernel
theorem d_Ro_add_36 : decode M_Ro_add.2.1 36 = .ok (.getfield 15, 3) := by decide +kernel
theorem d_Ro_add_39 : decode M_Ro_add.2.1 39 = .ok (.iload_n 3, 1) := by decide +kernel
theorem d_Ro_add_40 : decode M_Ro_add.2.1 40 = .ok (.aload_n 0, 1) := by decide +kernel
theorem d_Ro_add_41 : decode M_Ro_add.2.1 41 = .ok (.getfield 15, 3) := by decide +kernel
theorem d_Ro_add_44 : decode M_Ro_add.2.1 44 = .ok (.iload_n 3, 1) := by decide +kernel
theorem d_Ro_add_45 : decode M_Ro_add.2.1 45 = .ok (.iconst 1, 1) := by decide +kernel
theorem d_Ro_add_46 : decode M_Ro_add.2.1 46 = .ok (.isub, 1) := by decide +kernel
theorem d_Ro_add_47 : decode M_Ro_add.2.1 47 = .ok (.iaload, 1) := by decide +kernel
theorem d_Ro_add_48 : decode M_Ro_add.2.1 48 = .ok (.iastore, 1) := by decide +kernel
theorem d_Ro_add_49 : decode M_Ro_add.2.1 49 = .ok (.iinc 3 (-1), 3) := by decide +kernel
theorem d_Ro_add_52 : decode M_Ro_add.2.1 52 = .ok (.goto (-47), 3) := by decide +kernel
theorem d_Ro_add_55 : decode M_Ro_add.2.1 55 = .ok (.aload_n 0, 1) := by decide +kernel
theorem d_Ro_add_56 : decode M_Ro_add.2.1 56 = .ok (.getfield 9, 3) := by decide +kernel
theorem d_Ro_add_59 : decode M_Ro_add.2.1 59 = .ok (.iload_n 3, 1) := by decide +kernel
theorem d_Ro_add_60 : decode M_Ro_add.2.1 60 = .ok (.iload_n 1, 1) := by decide +kernel
theorem d_Ro_add_61 : decode M_Ro_add.2.1 61 = .ok (.iastore, 1) := by decide +kernel
theorem d_Ro_add_62 : decode M_Ro_add.2.1 62 = .ok (.aload_n 0, 1) := by decide +kernel
theorem d_Ro_add_63 : decode M_Ro_add.2.1 63 = .ok (.getfield 15, 3) := by decide +kernel
theorem d_Ro_add_66 : decode M_Ro_add.2.1 66 = .ok (.iload_n 3, 1) := by decide +kernel
theorem d_Ro_add_67 : decode M_Ro_add.2.1 67 = .ok (.iload_n 2, 1) := by decide +kernel
theorem d_Ro_add_68 : decode M_Ro_add.2.1 68 = .ok (.iastore, 1) := by decide +kernel
theorem d_Ro_add_69 : decode M_Ro_add.2.1 69 = .ok (.aload_n 0, 1) := by decide +kernel
theorem d_Ro_add_70 : decode M_Ro_add.2.1 70 = .ok (.dup, 1) := by decide +kernel
theorem d_Ro_add_71 : decode M_Ro_add.2.1 71 = .ok (.getfield 18, 3) := by decide +kernel
theorem d_Ro_add_74 : decode M_Ro_add.2.1 74 = .ok (.iconst 1, 1) := by decide +kernel
theorem d_Ro_add_75 : decode M_Ro_add.2.1 75 = .ok (.iadd, 1) := by decide +kernel
theorem d_Ro_add_76 : decode M_Ro_add.2.1 76 = .ok (.putfield 18, 3) := by decide +kernel
theorem d_Ro_add_79 : decode M_Ro_add.2.1 79 = .ok (.aload_n 0, 1) := by decide +kernel
theorem d_Ro_add_80 : decode M_Ro_add.2.1 80 = .ok (.getfield 18, 3) := by decide +kernel
theorem d_Ro_add_83 : decode M_Ro_add.2.1 83 = .ok (.ireturn, 1) := by decide +kernel
theorem d_Ro_clear_0 : decode M_Ro_clear.2.1 0 = .ok (.aload_n 0, 1) := by decide +kernel
theorem d_Ro_clear_1 : decode M_Ro_clear.2.1 1 = .ok (.getfield 18, 3) := by decide +kernel
theorem d_Ro_clear_4 : decode M_Ro_clear.2.1 4 = .ok (.istore_n 1, 1) := by decide +kernel
theorem d_Ro_clear_5 : decode M_Ro_clear.2.1 5 = .ok (.aload_n 0, 1) := by decide +kernel
theorem d_Ro_clear_6 : decode M_Ro_clear.2.1 6 = .ok (.iconst 0, 1) := by decide +kernel
theorem d_Ro_clear_7 : decode M_Ro_clear.2.1 7 = .ok (.putfield 18, 3) := by decide +kernel
theorem d_Ro_clear_10 : decode M_Ro_clear.2.1 10 = .ok (.iload_n 1, 1) := by decide +kernel
theorem d_Ro_clear_11 : decode M_Ro_clear.2.1 11 = .ok (.ireturn, 1) := by decide +kernel
theorem d_Tr_init_0 : decode M_Tr_init.2.1 0 = .ok (.aload_n 0, 1) := by decide +kernel
theorem d_Tr_init_1 : decode M_Tr_init.2.1 1 = .ok (.invokespecial 3, 3) := by decide +kernel
theorem d_Tr_init_4 : decode M_Tr_init.2.1 4 = .ok (.aload_n 0, 1) := by decide +kernel
theorem d_Tr_init_5 : decode M_Tr_init.2.1 5 = .ok (.new 9, 3) := by decide +kernel
theorem d_Tr_init_8 : decode M_Tr_init.2.1 8 = .ok (.dup, 1) := by decide +kernel
theorem d_Tr_init_9 : decode M_Tr_init.2.1 9 = .ok (.invokespecial 11, 3) := by decide +kernel
theorem d_Tr_init_12 : decode M_Tr_init.2.1 12 = .ok (.putfield 12, 3) := by decide +kernel
theorem d_Tr_init_15 : decode M_Tr_init.2.1 15 = .ok (.aload_n 0, 1) := by decide +kernel
theorem d_Tr_init_16 : decode M_Tr_init.2.1 16 = .ok (.iconst 0, 1) := by decide +kernel
theorem d_Tr_init_17 : decode M_Tr_init.2.1 17 = .ok (.putfield 18, 3) := by decide +kernel
theorem d_Tr_init_20 : decode M_Tr_init.2.1 20 = .ok (.aload_n 0, 1) := by decide +kernel
theorem d_Tr_init_21 : decode M_Tr_init.2.1 21 = .ok (.iconst (-1), 1) := by decide +kernel
theorem d_Tr_init_22 : decode M_Tr_init.2.1 22 = .ok (.putfield 22, 3) := by decide +kernel
theorem d_Tr_init_25 : decode M_Tr_init.2.1 25 = .ok (.return_, 1) := by decide +kernel
theorem d_Tr_start_0 : decode M_Tr_start.2.1 0 = .ok (.aload_n 0, 1) := by decide +kernel
theorem d_Tr_start_1 : decode M_Tr_start.2.1 1 = .ok (.iconst 1, 1) := by decide +kernel
theorem d_Tr_start_2 : decode M_Tr_start.2.1 2 = .ok (.putfield 18, 3) := by decide +kernel
theorem d_Tr_start_5 : decode M_Tr_start.2.1 5 = .ok (.aload_n 0, 1) := by decide +kernel
theorem d_Tr_start_6 : decode M_Tr_start.2.1 6 = .ok (.iload_n 1, 1) := by decide +kernel
theorem d_Tr_start_7 : decode M_Tr_start.2.1 7 = .ok (.putfield 22, 3) := by decide +kernel
theorem d_Tr_start_10 : decode M_Tr_start.2.1 10 = .ok (.aload_n 0, 1) := by decide +kernel
theorem d_Tr_start_11 : decode M_Tr_start.2.1 11 = .ok (.getfield 12, 3) := by decide +kernel
theorem d_Tr_start_14 : decode M_Tr_start.2.1 14 = .ok (.iconst 0, 1) := by decide +kernel
theorem d_Tr_start_15 : decode M_Tr_start.2.1 15 = .ok (.putfield 26, 3) := by decide +kernel
theorem d_Tr_start_18 : decode M_Tr_start.2.1 18 = .ok (.return_, 1) := by decide +kernel
theorem d_Lo_bitCount_0 : decode M_Lo_bitCount.2.1 0 = .ok (.lload_n 0, 1) := by decide +kernel
theorem d_Lo_bitCount_1 : decode M_Lo_bitCount.2.1 1 = .ok (.lload_n 0, 1) := by decide +kernel
theorem d_Lo_bitCount_2 : decode M_Lo_bitCount.2.1 2 = .ok (.iconst 1, 1) := by decide +kernel
theorem d_Lo_bitCount_3 : decode M_Lo_bitCount.2.1 3 = .ok (.lushr, 1) := by decide +kernel
theorem d_Lo_bitCount_4 : decode M_Lo_bitCount.2.1 4 = .ok (.ldc2_w 314, 3) := by decide +kernel
theorem d_Lo_bitCount_7 : decode M_Lo_bitCount.2.1 7 = .ok (.land, 1) := by decide +kernel
theorem d_Lo_bitCount_8 : decode M_Lo_bitCount.2.1 8 = .ok (.lsub, 1) := by decide +kernel
theorem d_Lo_bitCount_9 : decode M_Lo_bitCount.2.1 9 = .ok (.lstore_n 0, 1) := by decide +kernel
theorem d_Lo_bitCount_10 : decode M_Lo_bitCount.2.1 10 = .ok (.lload_n 0, 1) := by decide +kernel
theorem d_Lo_bitCount_11 : decode M_Lo_bitCount.2.1 11 = .ok (.ldc2_w 316, 3) := by decide +kernel
theorem d_Lo_bitCount_14 : decode M_Lo_bitCount.2.1 14 = .ok (.land, 1) := by decide +kernel
theorem d_Lo_bitCount_15 : decode M_Lo_bitCount.2.1 15 = .ok (.lload_n 0, 1) := by decide +kernel
theorem d_Lo_bitCount_16 : decode M_Lo_bitCount.2.1 16 = .ok (.iconst 2, 1) := by decide +kernel
theorem d_Lo_bitCount_17 : decode M_Lo_bitCount.2.1 17 = .ok (.lushr, 1) := by decide +kernel
theorem d_Lo_bitCount_18 : decode M_Lo_bitCount.2.1 18 = .ok (.ldc2_w 316, 3) := by decide +kernel
theorem d_Lo_bitCount_21 : decode M_Lo_bitCount.2.1 21 = .ok (.land, 1) := by decide +kernel
theorem d_Lo_bitCount_22 : decode M_Lo_bitCount.2.1 22 = .ok (.ladd, 1) := by decide +kernel
theorem d_Lo_bitCount_23 : decode M_Lo_bitCount.2.1 23 = .ok (.lstore_n 0, 1) := by decide +kernel
theorem d_Lo_bitCount_24 : decode M_Lo_bitCount.2.1 24 = .ok (.lload_n 0, 1) := by decide +kernel
theorem d_Lo_bitCount_25 : decode M_Lo_bitCount.2.1 25 = .ok (.lload_n 0, 1) := by decide +kernel
theorem d_Lo_bitCount_26 : decode M_Lo_bitCount.2.1 26 = .ok (.iconst 4, 1) := by decide +kernel
theorem d_Lo_bitCount_27 : decode M_Lo_bitCount.2.1 27 = .ok (.lushr, 1) := by decide +kernel
theorem d_Lo_bitCount_28 : decode M_Lo_bitCount.2.1 28 = .ok (.ladd, 1) := by decide +kernel
theorem d_Lo_bitCount_29 : decode M_Lo_bitCount.2.1 29 = .ok (.ldc2_w 318, 3) := by decide +kernel
theorem d_Lo_bitCount_32 : decode M_Lo_bitCount.2.1 32 = .ok (.land, 1) := by decide +kernel
theorem d_Lo_bitCount_33 : decode M_Lo_bitCount.2.1 33 = .ok (.lstore_n 0, 1) := by decide +kernel
theorem d_Lo_bitCount_34 : decode M_Lo_bitCount.2.1 34 = .ok (.lload_n 0, 1) := by decide +kernel
theorem d_Lo_bitCount_35 : decode M_Lo_bitCount.2.1 35 = .ok (.lload_n 0, 1) := by decide +kernel
theorem d_Lo_bitCount_36 : decode M_Lo_bitCount.2.1 36 = .ok (.bipush 8, 2) := by decide +kernel
theorem d_Lo_bitCount_38 : decode M_Lo_bitCount.2.1 38 = .ok (.lushr, 1) := by decide +kernel
theorem d_Lo_bitCount_39 : decode M_Lo_bitCount.2.1 39 = .ok (.ladd, 1) := by decide +kernel
theorem d_Lo_bitCount_40 : decode M_Lo_bitCount.2.1 40 = .ok (.lstore_n 0, 1) := by decide +kernel
theorem d_Lo_bitCount_41 : decode M_Lo_bitCount.2.1 41 = .ok (.lload_n 0, 1) := by decide +kernel
theorem d_Lo_bitCount_42 : decode M_Lo_bitCount.2.1 42 = .ok (.lload_n 0, 1) := by decide +kernel
theorem d_Lo_bitCount_43 : decode M_Lo_bitCount.2.1 43 = .ok (.bipush 16, 2) := by decide +kernel
theorem d_Lo_bitCount_45 : decode M_Lo_bitCount.2.1 45 = .ok (.lushr, 1) := by decide +kernel
theorem d_Lo_bitCount_46 : decode M_Lo_bitCount.2.1 46 = .ok (.ladd, 1) := by decide +kernel
theorem d_Lo_bitCount_47 : decode M_Lo_bitCount.2.1 47 = .ok (.lstore_n 0, 1) := by decide +kernel
theorem d_Lo_bitCount_48 : decode M_Lo_bitCount.2.1 48 = .ok (.lload_n 0, 1) := by decide +kernel
theorem d_Lo_bitCount_49 : decode M_Lo_bitCount.2.1 49 = .ok (.lload_n 0, 1) := by decide +kernel
theorem d_Lo_bitCount_50 : decode M_Lo_bitCount.2.1 50 = .ok (.bipush 32, 2) := by decide +kernel
theorem d_Lo_bitCount_52 : decode M_Lo_bitCount.2.1 52 = .ok (.lushr, 1) := by decide +kernel
theorem d_Lo_bitCount_53 : decode M_Lo_bitCount.2.1 53 = .ok (.ladd, 1) := by decide +kernel
theorem d_Lo_bitCount_54 : decode M_Lo_bitCount.2.1 54 = .ok (.lstore_n 0, 1) := by decide +kernel
theorem d_Lo_bitCount_55 : decode M_Lo_bitCount.2.1 55 = .ok (.lload_n 0, 1) := by decide +kernel
theorem d_Lo_bitCount_56 : decode M_Lo_bitCount.2.1 56 = .ok (.l2i, 1) := by decide +kernel
theorem d_Lo_bitCount_57 : decode M_Lo_bitCount.2.1 57 = .ok (.bipush 127, 2) := by decide +kernel
theorem d_Lo_bitCount_59 : decode M_Lo_bitCount.2.1 59 = .ok (.iand, 1) := by decide +kernel
theorem d_Lo_bitCount_60 : decode M_Lo_bitCount.2.1 60 = .ok (.ireturn, 1) := by decide +kernel
theorem d_Mt_max_0 : decode M_Mt_max.2.1 0 = .ok (.iload_n 0, 1) := by decide +kernel
theorem d_Mt_max_1 : decode M_Mt_max.2.1 1 = .ok (.iload_n 1, 1) := by decide +kernel
theorem d_Mt_max_2 : decode M_Mt_max.2.1 2 = .ok (.if_icmp .lt 7, 3) := by decide +kernel
theorem d_Mt_max_5 : decode M_Mt_max.2.1 5 = .ok (.iload_n 0, 1) := by decide +kernel
theorem d_Mt_max_6 : decode M_Mt_max.2.1 6 = .ok (.goto 4, 3) := by decide +kernel
theorem d_Mt_max_9 : decode M_Mt_max.2.1 9 = .ok (.iload_n 1, 1) := by decide +kernel
theorem d_Mt_max_10 : decode M_Mt_max.2.1 10 = .ok (.ireturn, 1) := by decide +kernel
theorem d_Mt_min_0 : decode M_Mt_min.2.1 0 = .ok (.iload_n 0, 1) := by decide +kernel
theorem d_Mt_min_1 : decode M_Mt_min.2.1 1 = .ok (.iload_n 1, 1) := by decide +kernel
theorem d_Mt_min_2 : decode M_Mt_min.2.1 2 = .ok (.if_icmp .gt 7, 3) := by decide +kernel
theorem d_Mt_min_5 : decode M_Mt_min.2.1 5 = .ok (.iload_n 0, 1) := by decide +kernel
theorem d_Mt_min_6 : decode M_Mt_min.2.1 6 = .ok (.goto 4, 3) := by decide +kernel
theorem d_Mt_min_9 : decode M_Mt_min.2.1 9 = .ok (.iload_n 1, 1) := by decide +kernel
theorem d_Mt_min_10 : decode M_Mt_min.2.1 10 = .ok (.ireturn, 1) := by decide +kernel
