theorem dX7_init_0 : decode cX7_init 0 = .ok (.aload_n 0, 1) := by decide +kernel
theorem dX7_init_1 : decode cX7_init 1 = .ok (.invokespecial 1, 3) := by decide +kernel
theorem dX7_init_4 : decode cX7_init 4 = .ok (.aload_n 0, 1) := by decide +kernel
theorem dX7_init_5 : decode cX7_init 5 = .ok (.bipush 66, 2) := by decide +kernel
theorem dX7_init_7 : decode cX7_init 7 = .ok (.newarray .int, 2) := by decide +kernel
theorem dX7_init_9 : decode cX7_init 9 = .ok (.putfield 7, 3) := by decide +kernel
theorem dX7_init_12 : decode cX7_init 12 = .ok (.aload_n 0, 1) := by decide +kernel
theorem dX7_init_13 : decode cX7_init 13 = .ok (.bipush 66, 2) := by decide +kernel
theorem dX7_init_15 : decode cX7_init 15 = .ok (.newarray .int, 2) := by decide +kernel
theorem dX7_init_17 : decode cX7_init 17 = .ok (.putfield 13, 3) := by decide +kernel
theorem dX7_init_20 : decode cX7_init 20 = .ok (.aload_n 0, 1) := by decide +kernel
theorem dX7_init_21 : decode cX7_init 21 = .ok (.sipush 264, 3) := by decide +kernel
theorem dX7_init_24 : decode cX7_init 24 = .ok (.newarray .int, 2) := by decide +kernel
theorem dX7_init_26 : decode cX7_init 26 = .ok (.putfield 16, 3) := by decide +kernel
theorem dX7_init_29 : decode cX7_init 29 = .ok (.aload_n 0, 1) := by decide +kernel
theorem dX7_init_30 : decode cX7_init 30 = .ok (.bipush 66, 2) := by decide +kernel
theorem dX7_init_32 : decode cX7_init 32 = .ok (.newarray .int, 2) := by decide +kernel
theorem dX7_init_34 : decode cX7_init 34 = .ok (.putfield 19, 3) := by decide +kernel
theorem dX7_init_37 : decode cX7_init 37 = .ok (.aload_n 0, 1) := by decide +kernel
theorem dX7_init_38 : decode cX7_init 38 = .ok (.bipush 80, 2) := by decide +kernel
theorem dX7_init_40 : decode cX7_init 40 = .ok (.newarray .int, 2) := by decide +kernel
theorem dX7_init_42 : decode cX7_init 42 = .ok (.putfield 22, 3) := by decide +kernel
theorem dX7_init_45 : decode cX7_init 45 = .ok (.aload_n 0, 1) := by decide +kernel
theorem dX7_init_46 : decode cX7_init 46 = .ok (.bipush 16, 2) := by decide +kernel
theorem dX7_init_48 : decode cX7_init 48 = .ok (.newarray .int, 2) := by decide +kernel
theorem dX7_init_50 : decode cX7_init 50 = .ok (.putfield 25, 3) := by decide +kernel
theorem dX7_init_53 : decode cX7_init 53 = .ok (.return_, 1) := by decide +kernel
theorem dX7_in_0 : decode cX7_in 0 = .ok (.iload_n 0, 1) := by decide +kernel
theorem dX7_in_1 : decode cX7_in 1 = .ok (.iload_n 1, 1) := by decide +kernel
theorem dX7_in_2 : decode cX7_in 2 = .ok (.if_icmp .lt 12, 3) := by decide +kernel
theorem dX7_in_5 : decode cX7_in 5 = .ok (.iload_n 0, 1) := by decide +kernel
theorem dX7_in_6 : decode cX7_in 6 = .ok (.iload_n 2, 1) := by decide +kernel
theorem dX7_in_7 : decode cX7_in 7 = .ok (.if_icmp .gt 7, 3) := by decide +kernel
theorem dX7_in_10 : decode cX7_in 10 = .ok (.iconst 1, 1) := by decide +kernel
theorem dX7_in_11 : decode cX7_in 11 = .ok (.goto 4, 3) := by decide +kernel
theorem dX7_in_14 : decode cX7_in 14 = .ok (.iconst 0, 1) := by decide +kernel
theorem dX7_in_15 : decode cX7_in 15 = .ok (.ireturn, 1) := by decide +kernel
theorem dX7_isChip_0 : decode cX7_isChip 0 = .ok (.iload_n 1, 1) := by decide +kernel
theorem dX7_isChip_1 : decode cX7_isChip 1 = .ok (.iconst 0, 1) := by decide +kernel
theorem dX7_isChip_2 : decode cX7_isChip 2 = .ok (.aload_n 0, 1) := by decide +kernel
theorem dX7_isChip_3 : decode cX7_isChip 3 = .ok (.getfield 7, 3) := by decide +kernel
theorem dX7_isChip_6 : decode cX7_isChip 6 = .ok (.iconst 0, 1) := by decide +kernel
theorem dX7_isChip_7 : decode cX7_isChip 7 = .ok (.iaload, 1) := by decide +kernel
theorem dX7_isChip_8 : decode cX7_isChip 8 = .ok (.iconst 1, 1) := by decide +kernel
theorem dX7_isChip_9 : decode cX7_isChip 9 = .ok (.isub, 1) := by decide +kernel
theorem dX7_isChip_10 : decode cX7_isChip 10 = .ok (.invokestatic 28, 3) := by decide +kernel
theorem dX7_isChip_13 : decode cX7_isChip 13 = .ok (.ireturn, 1) := by decide +kernel
theorem dX7_of_0 : decode cX7_of 0 = .ok (.aload_n 0, 1) := by decide +kernel
theorem dX7_of_1 : decode cX7_of 1 = .ok (.getfield 7, 3) := by decide +kernel
theorem dX7_of_4 : decode cX7_of 4 = .ok (.bipush 12, 2) := by decide +kernel
theorem dX7_of_6 : decode cX7_of 6 = .ok (.bipush 9, 2) := by decide +kernel
theorem dX7_of_8 : decode cX7_of 8 = .ok (.iload_n 1, 1) := by decide +kernel
theorem dX7_of_9 : decode cX7_of 9 = .ok (.imul, 1) := by decide +kernel
theorem dX7_of_10 : decode cX7_of 10 = .ok (.iadd, 1) := by decide +kernel
theorem dX7_of_11 : decode cX7_of 11 = .ok (.iload_n 2, 1) := by decide +kernel
theorem dX7_of_12 : decode cX7_of 12 = .ok (.iadd, 1) := by decide +kernel
theorem dX7_of_13 : decode cX7_of 13 = .ok (.iaload, 1) := by decide +kernel
theorem dX7_of_14 : decode cX7_of 14 = .ok (.ireturn, 1) := by decide +kernel
theorem dX7_lay_0 : decode cX7_lay 0 = .ok (.aload_n 0, 1) := by decide +kernel
theorem dX7_lay_1 : decode cX7_lay 1 = .ok (.getfield 7, 3) := by decide +kernel
theorem dX7_lay_4 : decode cX7_lay 4 = .ok (.bipush 12, 2) := by decide +kernel
theorem dX7_lay_6 : decode cX7_lay 6 = .ok (.bipush 9, 2) := by decide +kernel
theorem dX7_lay_8 : decode cX7_lay 8 = .ok (.iload_n 1, 1) := by decide +kernel
theorem dX7_lay_9 : decode cX7_lay 9 = .ok (.imul, 1) := by decide +kernel
theorem dX7_lay_10 : decode cX7_lay 10 = .ok (.iadd, 1) := by decide +kernel
theorem dX7_lay_11 : decode cX7_lay 11 = .ok (.iload_n 2, 1) := by decide +kernel
theorem dX7_lay_12 : decode cX7_lay 12 = .ok (.iadd, 1) := by decide +kernel
theorem dX7_lay_13 : decode cX7_lay 13 = .ok (.iload_n 3, 1) := by decide +kernel
theorem dX7_lay_14 : decode cX7_lay 14 = .ok (.iastore, 1) := by decide +kernel
theorem dX7_lay_15 : decode cX7_lay 15 = .ok (.return_, 1) := by decide +kernel
theorem dX7_ones_0 : decode cX7_ones 0 = .ok (.iconst 1, 1) := by decide +kernel
theorem dX7_ones_1 : decode cX7_ones 1 = .ok (.iload_n 0, 1) := by decide +kernel
theorem dX7_ones_2 : decode cX7_ones 2 = .ok (.ishl, 1) := by decide +kernel
theorem dX7_ones_3 : decode cX7_ones 3 = .ok (.iconst 1, 1) := by decide +kernel
theorem dX7_ones_4 : decode cX7_ones 4 = .ok (.isub, 1) := by decide +kernel
theorem dX7_ones_5 : decode cX7_ones 5 = .ok (.ireturn, 1) := by decide +kernel
theorem dX7_copyRow_0 : decode cX7_copyRow 0 = .ok (.iconst 0, 1) := by decide +kernel
theorem dX7_copyRow_1 : decode cX7_copyRow 1 = .ok (.istore 4, 2) := by decide +kernel
theorem dX7_copyRow_3 : decode cX7_copyRow 3 = .ok (.iload 4, 2) := by decide +kernel
theorem dX7_copyRow_5 : decode cX7_copyRow 5 = .ok (.bipush 66, 2) := by decide +kernel
theorem dX7_copyRow_7 : decode cX7_copyRow 7 = .ok (.if_icmp .ge 21, 3) := by decide +kernel
theorem dX7_copyRow_10 : decode cX7_copyRow 10 = .ok (.aload_n 2, 1) := by decide +kernel
theorem dX7_copyRow_11 : decode cX7_copyRow 11 = .ok (.iload_n 3, 1) := by decide +kernel
theorem dX7_copyRow_12 : decode cX7_copyRow 12 = .ok (.iload 4, 2) := by decide +kernel
theorem dX7_copyRow_14 : decode cX7_copyRow 14 = .ok (.iadd, 1) := by decide +kernel
theorem dX7_copyRow_15 : decode cX7_copyRow 15 = .ok (.aload_n 0, 1) := by decide +kernel
theorem dX7_copyRow_16 : decode cX7_copyRow 16 = .ok (.iload_n 1, 1) := by decide +kernel
theorem dX7_copyRow_17 : decode cX7_copyRow 17 = .ok (.iload 4, 2) := by decide +kernel
theorem dX7_copyRow_19 : decode cX7_copyRow 19 = .ok (.iadd, 1) := by decide +kernel
theorem dX7_copyRow_20 : decode cX7_copyRow 20 = .ok (.iaload, 1) := by decide +kernel
theorem dX7_copyRow_21 : decode cX7_copyRow 21 = .ok (.iastore, 1) := by decide +kernel
theorem dX7_copyRow_22 : decode cX7_copyRow 22 = .ok (.iinc 4 1, 3) := by decide +kernel
theorem dX7_copyRow_25 : decode cX7_copyRow 25 = .ok (.goto (-22), 3) := by decide +kernel
theorem dX7_copyRow_28 : decode cX7_copyRow 28 = .ok (.return_, 1) := by decide +kernel
theorem dX7_record_0 : decode cX7_record 0 = .ok (.aload_n 0, 1) := by decide +kernel
theorem dX7_record_1 : decode cX7_record 1 = .ok (.getfield 32, 3) := by decide +kernel
theorem dX7_record_4 : decode cX7_record 4 = .ok (.iconst 4, 1) := by decide +kernel
theorem dX7_record_5 : decode cX7_record 5 = .ok (.if_icmp .ne 43, 3) := by decide +kernel
theorem dX7_record_8 : decode cX7_record 8 = .ok (.iconst 0, 1) := by decide +kernel
theorem dX7_record_9 : decode cX7_record 9 = .ok (.istore_n 1, 1) := by decide +kernel
theorem dX7_record_10 : decode cX7_record 10 = .ok (.iload_n 1, 1) := by decide +kernel
theorem dX7_record_11 : decode cX7_record 11 = .ok (.sipush 198, 3) := by decide +kernel
theorem dX7_record_14 : decode cX7_record 14 = .ok (.if_icmp .ge 24, 3) := by decide +kernel
theorem dX7_record_17 : decode cX7_record 17 = .ok (.aload_n 0, 1) := by decide +kernel
theorem dX7_record_18 : decode cX7_record 18 = .ok (.getfield 16, 3) := by decide +kernel
theorem dX7_record_21 : decode cX7_record 21 = .ok (.iload_n 1, 1) := by decide +kernel
theorem dX7_record_22 : decode cX7_record 22 = .ok (.aload_n 0, 1) := by decide +kernel
theorem dX7_record_23 : decode cX7_record 23 = .ok (.getfield 16, 3) := by decide +kernel
theorem dX7_record_26 : decode cX7_record 26 = .ok (.iload_n 1, 1) := by decide +kernel
theorem dX7_record_27 : decode cX7_record 27 = .ok (.bipush 66, 2) := by decide +kernel
theorem dX7_record_29 : decode cX7_record 29 = .ok (.iadd, 1) := by decide +kernel
theorem dX7_record_30 : decode cX7_record 30 = .ok (.iaload, 1) := by decide +kernel
theorem dX7_record_31 : decode cX7_record 31 = .ok (.iastore, 1) := by decide +kernel
theorem dX7_record_32 : decode cX7_record 32 = .ok (.iinc 1 1, 3) := by decide +kernel
theorem dX7_record_35 : decode cX7_record 35 = .ok (.goto (-25), 3) := by decide +kernel
theorem dX7_record_38 : decode cX7_record 38 = .ok (.aload_n 0, 1) := by decide +kernel
theorem dX7_record_39 : decode cX7_record 39 = .ok (.dup, 1) := by decide +kernel
theorem dX7_record_40 : decode cX7_record 40 = .ok (.getfield 32, 3) := by decide +kernel
theorem dX7_record_43 : decode cX7_record 43 = .ok (.iconst 1, 1) := by decide +kernel
theorem dX7_record_44 : decode cX7_record 44 = .ok (.isub, 1) := by decide +kernel
theorem dX7_record_45 : decode cX7_record 45 = .ok (.putfield 32, 3) := by decide +kernel
theorem dX7_record_48 : decode cX7_record 48 = .ok (.aload_n 0, 1) := by decide +kernel
theorem dX7_record_49 : decode cX7_record 49 = .ok (.getfield 7, 3) := by decide +kernel
theorem dX7_record_52 : decode cX7_record 52 = .ok (.iconst 0, 1) := by decide +kernel
theorem dX7_record_53 : decode cX7_record 53 = .ok (.aload_n 0, 1) := by decide +kernel
theorem dX7_record_54 : decode cX7_record 54 = .ok (.getfield 16, 3) := by decide +kernel
theorem dX7_record_57 : decode cX7_record 57 = .ok (.bipush 66, 2) := by decide +kernel
theorem dX7_record_59 : decode cX7_record 59 = .ok (.aload_n 0, 1) := by decide +kernel
theorem dX7_record_60 : decode cX7_record 60 = .ok (.getfield 32, 3) := by decide +kernel
theorem dX7_record_63 : decode cX7_record 63 = .ok (.imul, 1) := by decide +kernel
theorem dX7_record_64 : decode cX7_record 64 = .ok (.invokestatic 36, 3) := by decide +kernel
theorem dX7_record_67 : decode cX7_record 67 = .ok (.aload_n 0, 1) := by decide +kernel
theorem dX7_record_68 : decode cX7_record 68 = .ok (.dup, 1) := by decide +kernel
theorem dX7_record_69 : decode cX7_record 69 = .ok (.getfield 32, 3) := by decide +kernel
theorem dX7_record_72 : decode cX7_record 72 = .ok (.iconst 1, 1) := by decide +kernel
theorem dX7_record_73 : decode cX7_record 73 = .ok (.iadd, 1) := by decide +kernel
theorem dX7_record_74 : decode cX7_record 74 = .ok (.putfield 32, 3) := by decide +kernel
theorem dX7_record_77 : decode cX7_record 77 = .ok (.return_, 1) := by decide +kernel
theorem dX7_undo_0 : decode cX7_undo 0 = .ok (.aload_n 0, 1) := by decide +kernel
theorem dX7_undo_1 : decode cX7_undo 1 = .ok (.getfield 32, 3) := by decide +kernel
theorem dX7_undo_4 : decode cX7_undo 4 = .ok (.ifCond .ne 6, 3) := by decide +kernel
theorem dX7_undo_7 : decode cX7_undo 7 = .ok (.bipush (-4), 2) := by decide +kernel
theorem dX7_undo_9 : decode cX7_undo 9 = .ok (.ireturn, 1) := by decide +kernel
theorem dX7_undo_10 : decode cX7_undo 10 = .ok (.aload_n 0, 1) := by decide +kernel
theorem dX7_undo_11 : decode cX7_undo 11 = .ok (.dup, 1) := by decide +kernel
theorem dX7_undo_12 : decode cX7_undo 12 = .ok (.getfield 32, 3) := by decide +kernel
theorem dX7_undo_15 : decode cX7_undo 15 = .ok (.iconst 1, 1) := by decide +kernel
theorem dX7_undo_16 : decode cX7_undo 16 = .ok (.isub, 1) := by decide +kernel
theorem dX7_undo_17 : decode cX7_undo 17 = .ok (.putfield 32, 3) := by decide +kernel
theorem dX7_undo_20 : decode cX7_undo 20 = .ok (.aload_n 0, 1) := by decide +kernel
theorem dX7_undo_21 : decode cX7_undo 21 = .ok (.getfield 16, 3) := by decide +kernel
theorem dX7_undo_24 : decode cX7_undo 24 = .ok (.bipush 66, 2) := by decide +kernel
theorem dX7_undo_26 : decode cX7_undo 26 = .ok (.aload_n 0, 1) := by decide +kernel
theorem dX7_undo_27 : decode cX7_undo 27 = .ok (.getfield 32, 3) := by decide +kernel
theorem dX7_undo_30 : decode cX7_undo 30 = .ok (.imul, 1) := by decide +kernel
theorem dX7_undo_31 : decode cX7_undo 31 = .ok (.aload_n 0, 1) := by decide +kernel
theorem dX7_undo_32 : decode cX7_undo 32 = .ok (.getfield 7, 3) := by decide +kernel
theorem dX7_undo_35 : decode cX7_undo 35 = .ok (.iconst 0, 1) := by decide +kernel
theorem dX7_undo_36 : decode cX7_undo 36 = .ok (.invokestatic 36, 3) := by decide +kernel
theorem dX7_undo_39 : decode cX7_undo 39 = .ok (.aload_n 0, 1) := by decide +kernel
theorem dX7_undo_40 : decode cX7_undo 40 = .ok (.getfield 32, 3) := by decide +kernel
theorem dX7_undo_43 : decode cX7_undo 43 = .ok (.ireturn, 1) := by decide +kernel
theorem dX7_save_0 : decode cX7_save 0 = .ok (.aload_n 0, 1) := by decide +kernel
theorem dX7_save_1 : decode cX7_save 1 = .ok (.getfield 7, 3) := by decide +kernel
theorem dX7_save_4 : decode cX7_save 4 = .ok (.iconst 0, 1) := by decide +kernel
theorem dX7_save_5 : decode cX7_save 5 = .ok (.aload_n 0, 1) := by decide +kernel
theorem dX7_save_6 : decode cX7_save 6 = .ok (.getfield 19, 3) := by decide +kernel
theorem dX7_save_9 : decode cX7_save 9 = .ok (.iconst 0, 1) := by decide +kernel
theorem dX7_save_10 : decode cX7_save 10 = .ok (.invokestatic 36, 3) := by decide +kernel
theorem dX7_save_13 : decode cX7_save 13 = .ok (.aload_n 0, 1) := by decide +kernel
theorem dX7_save_14 : decode cX7_save 14 = .ok (.iconst 1, 1) := by decide +kernel
theorem dX7_save_15 : decode cX7_save 15 = .ok (.putfield 40, 3) := by decide +kernel
theorem dX7_save_18 : decode cX7_save 18 = .ok (.aload_n 0, 1) := by decide +kernel
theorem dX7_save_19 : decode cX7_save 19 = .ok (.getfield 7, 3) := by decide +kernel
theorem dX7_save_22 : decode cX7_save 22 = .ok (.iconst 0, 1) := by decide +kernel
theorem dX7_save_23 : decode cX7_save 23 = .ok (.iaload, 1) := by decide +kernel
theorem dX7_save_24 : decode cX7_save 24 = .ok (.ireturn, 1) := by decide +kernel
theorem dX7_restore_0 : decode cX7_restore 0 = .ok (.aload_n 0, 1) := by decide +kernel
theorem dX7_restore_1 : decode cX7_restore 1 = .ok (.getfield 40, 3) := by decide +kernel
theorem dX7_restore_4 : decode cX7_restore 4 = .ok (.ifCond .ne 5, 3) := by decide +kernel
theorem dX7_restore_7 : decode cX7_restore 7 = .ok (.iconst (-1), 1) := by decide +kernel
theorem dX7_restore_8 : decode cX7_restore 8 = .ok (.ireturn, 1) := by decide +kernel
theorem dX7_restore_9 : decode cX7_restore 9 = .ok (.aload_n 0, 1) := by decide +kernel
theorem dX7_restore_10 : decode cX7_restore 10 = .ok (.invokevirtual 44, 3) := by decide +kernel
theorem dX7_restore_13 : decode cX7_restore 13 = .ok (.aload_n 0, 1) := by decide +kernel
theorem dX7_restore_14 : decode cX7_restore 14 = .ok (.getfield 19, 3) := by decide +kernel
theorem dX7_restore_17 : decode cX7_restore 17 = .ok (.iconst 0, 1) := by decide +kernel
theorem dX7_restore_18 : decode cX7_restore 18 = .ok (.aload_n 0, 1) := by decide +kernel
theorem dX7_restore_19 : decode cX7_restore 19 = .ok (.getfield 7, 3) := by decide +kernel
theorem dX7_restore_22 : decode cX7_restore 22 = .ok (.iconst 0, 1) := by decide +kernel
theorem dX7_restore_23 : decode cX7_restore 23 = .ok (.invokestatic 36, 3) := by decide +kernel
theorem dX7_restore_26 : decode cX7_restore 26 = .ok (.aload_n 0, 1) := by decide +kernel
theorem dX7_restore_27 : decode cX7_restore 27 = .ok (.getfield 7, 3) := by decide +kernel
theorem dX7_restore_30 : decode cX7_restore 30 = .ok (.iconst 0, 1) := by decide +kernel
theorem dX7_restore_31 : decode cX7_restore 31 = .ok (.iaload, 1) := by decide +kernel
theorem dX7_restore_32 : decode cX7_restore 32 = .ok (.ireturn, 1) := by decide +kernel
theorem dX7_selectsCells_0 : decode cX7_selectsCells 0 = .ok (.aload_n 0, 1) := by decide +kernel
theorem dX7_selectsCells_1 : decode cX7_selectsCells 1 = .ok (.iload_n 1, 1) := by decide +kernel
theorem dX7_selectsCells_2 : decode cX7_selectsCells 2 = .ok (.bipush 6, 2) := by decide +kernel
theorem dX7_selectsCells_4 : decode cX7_selectsCells 4 = .ok (.invokevirtual 47, 3) := by decide +kernel
theorem dX7_selectsCells_7 : decode cX7_selectsCells 7 = .ok (.ifCond .eq 14, 3) := by decide +kernel
theorem dX7_selectsCells_10 : decode cX7_selectsCells 10 = .ok (.aload_n 0, 1) := by decide +kernel
theorem dX7_selectsCells_11 : decode cX7_selectsCells 11 = .ok (.iload_n 1, 1) := by decide +kernel
theorem dX7_selectsCells_12 : decode cX7_selectsCells 12 = .ok (.bipush 6, 2) := by decide +kernel
theorem dX7_selectsCells_14 : decode cX7_selectsCells 14 = .ok (.invokevirtual 47, 3) := by decide +kernel
theorem dX7_selectsCells_17 : decode cX7_selectsCells 17 = .ok (.iconst 2, 1) := by decide +kernel
theorem dX7_selectsCells_18 : decode cX7_selectsCells 18 = .ok (.if_icmp .ne 7, 3) := by decide +kernel
theorem dX7_selectsCells_21 : decode cX7_selectsCells 21 = .ok (.iconst 1, 1) := by decide +kernel
theorem dX7_selectsCells_22 : decode cX7_selectsCells 22 = .ok (.goto 4, 3) := by decide +kernel
theorem dX7_selectsCells_25 : decode cX7_selectsCells 25 = .ok (.iconst 0, 1) := by decide +kernel
theorem dX7_selectsCells_26 : decode cX7_selectsCells 26 = .ok (.ireturn, 1) := by decide +kernel
theorem dX7_selectsIdentity_0 : decode cX7_selectsIdentity 0 = .ok (.aload_n 0, 1) := by decide +kernel
theorem dX7_selectsIdentity_1 : decode cX7_selectsIdentity 1 = .ok (.iload_n 1, 1) := by decide +kernel
theorem dX7_selectsIdentity_2 : decode cX7_selectsIdentity 2 = .ok (.bipush 6, 2) := by decide +kernel
theorem dX7_selectsIdentity_4 : decode cX7_selectsIdentity 4 = .ok (.invokevirtual 47, 3) := by decide +kernel
theorem dX7_selectsIdentity_7 : decode cX7_selectsIdentity 7 = .ok (.iconst 1, 1) := by decide +kernel
theorem dX7_selectsIdentity_8 : decode cX7_selectsIdentity 8 = .ok (.if_icmp .ne 16, 3) := by decide +kernel
theorem dX7_selectsIdentity_11 : decode cX7_selectsIdentity 11 = .ok (.aload_n 0, 1) := by decide +kernel
theorem dX7_selectsIdentity_12 : decode cX7_selectsIdentity 12 = .ok (.iload_n 1, 1) := by decide +kernel
theorem dX7_selectsIdentity_13 : decode cX7_selectsIdentity 13 = .ok (.iconst 1, 1) := by decide +kernel
theorem dX7_selectsIdentity_14 : decode cX7_selectsIdentity 14 = .ok (.invokevirtual 47, 3) := by decide +kernel
theorem dX7_selectsIdentity_17 : decode cX7_selectsIdentity 17 = .ok (.ifCond .le 7, 3) := by decide +kernel
theorem dX7_selectsIdentity_20 : decode cX7_selectsIdentity 20 = .ok (.iconst 1, 1) := by decide +kernel
theorem dX7_selectsIdentity_21 : decode cX7_selectsIdentity 21 = .ok (.goto 4, 3) := by decide +kernel
theorem dX7_selectsIdentity_24 : decode cX7_selectsIdentity 24 = .ok (.iconst 0, 1) := by decide +kernel
theorem dX7_selectsIdentity_25 : decode cX7_selectsIdentity 25 = .ok (.ireturn, 1) := by decide +kernel
theorem dX7_bits_0 : decode cX7_bits 0 = .ok (.aload_n 0, 1) := by decide +kernel
theorem dX7_bits_1 : decode cX7_bits 1 = .ok (.iload_n 1, 1) := by decide +kernel
theorem dX7_bits_2 : decode cX7_bits 2 = .ok (.invokevirtual 51, 3) := by decide +kernel
theorem dX7_bits_5 : decode cX7_bits 5 = .ok (.ifCond .eq 12, 3) := by decide +kernel
theorem dX7_bits_8 : decode cX7_bits 8 = .ok (.aload_n 0, 1) := by decide +kernel
theorem dX7_bits_9 : decode cX7_bits 9 = .ok (.iload_n 1, 1) := by decide +kernel
theorem dX7_bits_10 : decode cX7_bits 10 = .ok (.iconst 2, 1) := by decide +kernel
theorem dX7_bits_11 : decode cX7_bits 11 = .ok (.invokevirtual 47, 3) := by decide +kernel
theorem dX7_bits_14 : decode cX7_bits 14 = .ok (.goto 17, 3) := by decide +kernel
theorem dX7_bits_17 : decode cX7_bits 17 = .ok (.aload_n 0, 1) := by decide +kernel
theorem dX7_bits_18 : decode cX7_bits 18 = .ok (.iload_n 1, 1) := by decide +kernel
theorem dX7_bits_19 : decode cX7_bits 19 = .ok (.invokevirtual 55, 3) := by decide +kernel
theorem dX7_bits_22 : decode cX7_bits 22 = .ok (.ifCond .eq 8, 3) := by decide +kernel
theorem dX7_bits_25 : decode cX7_bits 25 = .ok (.bipush 8, 2) := by decide +kernel
theorem dX7_bits_27 : decode cX7_bits 27 = .ok (.goto 4, 3) := by decide +kernel
theorem dX7_bits_30 : decode cX7_bits 30 = .ok (.iconst 1, 1) := by decide +kernel
theorem dX7_bits_31 : decode cX7_bits 31 = .ok (.ireturn, 1) := by decide +kernel
theorem dX7_give_0 : decode cX7_give 0 = .ok (.aload_n 0, 1) := by decide +kernel
theorem dX7_give_1 : decode cX7_give 1 = .ok (.iload_n 1, 1) := by decide +kernel
theorem dX7_give_2 : decode cX7_give 2 = .ok (.bipush 6, 2) := by decide +kernel
theorem dX7_give_4 : decode cX7_give 4 = .ok (.iload_n 2, 1) := by decide +kernel
theorem dX7_give_5 : decode cX7_give 5 = .ok (.invokevirtual 58, 3) := by decide +kernel
theorem dX7_give_8 : decode cX7_give 8 = .ok (.aload_n 0, 1) := by decide +kernel
theorem dX7_give_9 : decode cX7_give 9 = .ok (.iload_n 1, 1) := by decide +kernel
theorem dX7_give_10 : decode cX7_give 10 = .ok (.bipush 8, 2) := by decide +kernel
theorem dX7_give_12 : decode cX7_give 12 = .ok (.iconst 0, 1) := by decide +kernel
theorem dX7_give_13 : decode cX7_give 13 = .ok (.invokevirtual 58, 3) := by decide +kernel
theorem dX7_give_16 : decode cX7_give 16 = .ok (.return_, 1) := by decide +kernel
theorem dX7_giveFirst_0 : decode cX7_giveFirst 0 = .ok (.aload_n 0, 1) := by decide +kernel
theorem dX7_giveFirst_1 : decode cX7_giveFirst 1 = .ok (.iload_n 1, 1) := by decide +kernel
theorem dX7_giveFirst_2 : decode cX7_giveFirst 2 = .ok (.aload_n 0, 1) := by decide +kernel
theorem dX7_giveFirst_3 : decode cX7_giveFirst 3 = .ok (.iload_n 1, 1) := by decide +kernel
theorem dX7_giveFirst_4 : decode cX7_giveFirst 4 = .ok (.iconst 1, 1) := by decide +kernel
theorem dX7_giveFirst_5 : decode cX7_giveFirst 5 = .ok (.invokevirtual 47, 3) := by decide +kernel
theorem dX7_giveFirst_8 : decode cX7_giveFirst 8 = .ok (.ifCond .le 7, 3) := by decide +kernel
theorem dX7_giveFirst_11 : decode cX7_giveFirst 11 = .ok (.iconst 1, 1) := by decide +kernel
theorem dX7_giveFirst_12 : decode cX7_giveFirst 12 = .ok (.goto 12, 3) := by decide +kernel
theorem dX7_giveFirst_15 : decode cX7_giveFirst 15 = .ok (.aload_n 0, 1) := by decide +kernel
theorem dX7_giveFirst_16 : decode cX7_giveFirst 16 = .ok (.iload_n 1, 1) := by decide +kernel
theorem dX7_giveFirst_17 : decode cX7_giveFirst 17 = .ok (.iconst 0, 1) := by decide +kernel
theorem dX7_giveFirst_18 : decode cX7_giveFirst 18 = .ok (.invokevirtual 47, 3) := by decide +kernel
theorem dX7_giveFirst_21 : decode cX7_giveFirst 21 = .ok (.invokestatic 62, 3) := by decide +kernel
theorem dX7_giveFirst_24 : decode cX7_giveFirst 24 = .ok (.invokevirtual 66, 3) := by decide +kernel
theorem dX7_giveFirst_27 : decode cX7_giveFirst 27 = .ok (.return_, 1) := by decide +kernel
theorem dX7_add_0 : decode cX7_add 0 = .ok (.iload_n 2, 1) := by decide +kernel
theorem dX7_add_1 : decode cX7_add 1 = .ok (.ifCond .eq 21, 3) := by decide +kernel
theorem dX7_add_4 : decode cX7_add 4 = .ok (.iload_n 2, 1) := by decide +kernel
theorem dX7_add_5 : decode cX7_add 5 = .ok (.iconst 1, 1) := by decide +kernel
theorem dX7_add_6 : decode cX7_add 6 = .ok (.sipush 253, 3) := by decide +kernel
theorem dX7_add_9 : decode cX7_add 9 = .ok (.invokestatic 28, 3) := by decide +kernel
theorem dX7_add_12 : decode cX7_add 12 = .ok (.ifCond .eq 14, 3) := by decide +kernel
theorem dX7_add_15 : decode cX7_add 15 = .ok (.iload_n 2, 1) := by decide +kernel
theorem dX7_add_16 : decode cX7_add 16 = .ok (.iconst 2, 1) := by decide +kernel
theorem dX7_add_17 : decode cX7_add 17 = .ok (.irem, 1) := by decide +kernel
theorem dX7_add_18 : decode cX7_add 18 = .ok (.iconst 1, 1) := by decide +kernel
theorem dX7_add_19 : decode cX7_add 19 = .ok (.if_icmp .ne 7, 3) := by decide +kernel
theorem dX7_add_22 : decode cX7_add 22 = .ok (.iconst 1, 1) := by decide +kernel
theorem dX7_add_23 : decode cX7_add 23 = .ok (.goto 4, 3) := by decide +kernel
theorem dX7_add_26 : decode cX7_add 26 = .ok (.iconst 0, 1) := by decide +kernel
theorem dX7_add_27 : decode cX7_add 27 = .ok (.istore 4, 2) := by decide +kernel
theorem dX7_add_29 : decode cX7_add 29 = .ok (.iload_n 1, 1) := by decide +kernel
theorem dX7_add_30 : decode cX7_add 30 = .ok (.iconst 2, 1) := by decide +kernel
theorem dX7_add_31 : decode cX7_add 31 = .ok (.bipush 6, 2) := by decide +kernel
theorem dX7_add_33 : decode cX7_add 33 = .ok (.invokestatic 28, 3) := by decide +kernel
theorem dX7_add_36 : decode cX7_add 36 = .ok (.ifCond .eq 18, 3) := by decide +kernel
theorem dX7_add_39 : decode cX7_add 39 = .ok (.iload 4, 2) := by decide +kernel
theorem dX7_add_41 : decode cX7_add 41 = .ok (.ifCond .eq 13, 3) := by decide +kernel
theorem dX7_add_44 : decode cX7_add 44 = .ok (.iload_n 3, 1) := by decide +kernel
theorem dX7_add_45 : decode cX7_add 45 = .ok (.iconst 1, 1) := by decide +kernel
theorem dX7_add_46 : decode cX7_add 46 = .ok (.bipush 8, 2) := by decide +kernel
theorem dX7_add_48 : decode cX7_add 48 = .ok (.invokestatic 28, 3) := by decide +kernel
theorem dX7_add_51 : decode cX7_add 51 = .ok (.ifCond .ne 6, 3) := by decide +kernel
theorem dX7_add_54 : decode cX7_add 54 = .ok (.bipush (-2), 2) := by decide +kernel
theorem dX7_add_56 : decode cX7_add 56 = .ok (.ireturn, 1) := by decide +kernel
theorem dX7_add_57 : decode cX7_add 57 = .ok (.aload_n 0, 1) := by decide +kernel
theorem dX7_add_58 : decode cX7_add 58 = .ok (.getfield 7, 3) := by decide +kernel
theorem dX7_add_61 : decode cX7_add 61 = .ok (.iconst 0, 1) := by decide +kernel
theorem dX7_add_62 : decode cX7_add 62 = .ok (.iaload, 1) := by decide +kernel
theorem dX7_add_63 : decode cX7_add 63 = .ok (.bipush 6, 2) := by decide +kernel
theorem dX7_add_65 : decode cX7_add 65 = .ok (.if_icmp .ne 6, 3) := by decide +kernel
theorem dX7_add_68 : decode cX7_add 68 = .ok (.bipush (-3), 2) := by decide +kernel
theorem dX7_add_70 : decode cX7_add 70 = .ok (.ireturn, 1) := by decide +kernel
theorem dX7_add_71 : decode cX7_add 71 = .ok (.aload_n 0, 1) := by decide +kernel
theorem dX7_add_72 : decode cX7_add 72 = .ok (.invokevirtual 44, 3) := by decide +kernel
theorem dX7_add_75 : decode cX7_add 75 = .ok (.aload_n 0, 1) := by decide +kernel
theorem dX7_add_76 : decode cX7_add 76 = .ok (.getfield 7, 3) := by decide +kernel
theorem dX7_add_79 : decode cX7_add 79 = .ok (.iconst 0, 1) := by decide +kernel
theorem dX7_add_80 : decode cX7_add 80 = .ok (.iaload, 1) := by decide +kernel
theorem dX7_add_81 : decode cX7_add 81 = .ok (.istore 5, 2) := by decide +kernel
theorem dX7_add_83 : decode cX7_add 83 = .ok (.iconst 0, 1) := by decide +kernel
theorem dX7_add_84 : decode cX7_add 84 = .ok (.istore 6, 2) := by decide +kernel
theorem dX7_add_86 : decode cX7_add 86 = .ok (.iload 6, 2) := by decide +kernel
theorem dX7_add_88 : decode cX7_add 88 = .ok (.bipush 9, 2) := by decide +kernel
theorem dX7_add_90 : decode cX7_add 90 = .ok (.if_icmp .ge 18, 3) := by decide +kernel
theorem dX7_add_93 : decode cX7_add 93 = .ok (.aload_n 0, 1) := by decide +kernel
theorem dX7_add_94 : decode cX7_add 94 = .ok (.iload 5, 2) := by decide +kernel
theorem dX7_add_96 : decode cX7_add 96 = .ok (.iload 6, 2) := by decide +kernel
theorem dX7_add_98 : decode cX7_add 98 = .ok (.iconst 0, 1) := by decide +kernel
theorem dX7_add_99 : decode cX7_add 99 = .ok (.invokevirtual 58, 3) := by decide +kernel
theorem dX7_add_102 : decode cX7_add 102 = .ok (.iinc 6 1, 3) := by decide +kernel
theorem dX7_add_105 : decode cX7_add 105 = .ok (.goto (-19), 3) := by decide +kernel
theorem dX7_add_108 : decode cX7_add 108 = .ok (.aload_n 0, 1) := by decide +kernel
theorem dX7_add_109 : decode cX7_add 109 = .ok (.iload 5, 2) := by decide +kernel
theorem dX7_add_111 : decode cX7_add 111 = .ok (.iconst 0, 1) := by decide +kernel
theorem dX7_add_112 : decode cX7_add 112 = .ok (.iload_n 1, 1) := by decide +kernel
theorem dX7_add_113 : decode cX7_add 113 = .ok (.invokevirtual 58, 3) := by decide +kernel
theorem dX7_add_116 : decode cX7_add 116 = .ok (.aload_n 0, 1) := by decide +kernel
theorem dX7_add_117 : decode cX7_add 117 = .ok (.iload 5, 2) := by decide +kernel
theorem dX7_add_119 : decode cX7_add 119 = .ok (.iconst 1, 1) := by decide +kernel
theorem dX7_add_120 : decode cX7_add 120 = .ok (.iload_n 2, 1) := by decide +kernel
theorem dX7_add_121 : decode cX7_add 121 = .ok (.invokevirtual 58, 3) := by decide +kernel
theorem dX7_add_124 : decode cX7_add 124 = .ok (.aload_n 0, 1) := by decide +kernel
theorem dX7_add_125 : decode cX7_add 125 = .ok (.iload 5, 2) := by decide +kernel
theorem dX7_add_127 : decode cX7_add 127 = .ok (.iconst 2, 1) := by decide +kernel
theorem dX7_add_128 : decode cX7_add 128 = .ok (.iload_n 3, 1) := by decide +kernel
theorem dX7_add_129 : decode cX7_add 129 = .ok (.invokevirtual 58, 3) := by decide +kernel
theorem dX7_add_132 : decode cX7_add 132 = .ok (.aload_n 0, 1) := by decide +kernel
theorem dX7_add_133 : decode cX7_add 133 = .ok (.iload 5, 2) := by decide +kernel
theorem dX7_add_135 : decode cX7_add 135 = .ok (.invokevirtual 70, 3) := by decide +kernel
theorem dX7_add_138 : decode cX7_add 138 = .ok (.aload_n 0, 1) := by decide +kernel
theorem dX7_add_139 : decode cX7_add 139 = .ok (.getfield 7, 3) := by decide +kernel
theorem dX7_add_142 : decode cX7_add 142 = .ok (.iconst 0, 1) := by decide +kernel
theorem dX7_add_143 : decode cX7_add 143 = .ok (.dup2, 1) := by decide +kernel
theorem dX7_add_144 : decode cX7_add 144 = .ok (.iaload, 1) := by decide +kernel
theorem dX7_add_145 : decode cX7_add 145 = .ok (.iconst 1, 1) := by decide +kernel
theorem dX7_add_146 : decode cX7_add 146 = .ok (.iadd, 1) := by decide +kernel
theorem dX7_add_147 : decode cX7_add 147 = .ok (.iastore, 1) := by decide +kernel
theorem dX7_add_148 : decode cX7_add 148 = .ok (.iload 5, 2) := by decide +kernel
theorem dX7_add_150 : decode cX7_add 150 = .ok (.ireturn, 1) := by decide +kernel
theorem dX7_take_0 : decode cX7_take 0 = .ok (.aload_n 0, 1) := by decide +kernel
theorem dX7_take_1 : decode cX7_take 1 = .ok (.iload_n 1, 1) := by decide +kernel
theorem dX7_take_2 : decode cX7_take 2 = .ok (.invokevirtual 74, 3) := by decide +kernel
theorem dX7_take_5 : decode cX7_take 5 = .ok (.ifCond .ne 5, 3) := by decide +kernel
theorem dX7_take_8 : decode cX7_take 8 = .ok (.iconst (-1), 1) := by decide +kernel
theorem dX7_take_9 : decode cX7_take 9 = .ok (.ireturn, 1) := by decide +kernel
theorem dX7_take_10 : decode cX7_take 10 = .ok (.aload_n 0, 1) := by decide +kernel
theorem dX7_take_11 : decode cX7_take 11 = .ok (.invokevirtual 44, 3) := by decide +kernel
theorem dX7_take_14 : decode cX7_take 14 = .ok (.aload_n 0, 1) := by decide +kernel
theorem dX7_take_15 : decode cX7_take 15 = .ok (.iload_n 1, 1) := by decide +kernel
theorem dX7_take_16 : decode cX7_take 16 = .ok (.iconst 1, 1) := by decide +kernel
theorem dX7_take_17 : decode cX7_take 17 = .ok (.invokevirtual 47, 3) := by decide +kernel
theorem dX7_take_20 : decode cX7_take 20 = .ok (.istore_n 2, 1) := by decide +kernel
theorem dX7_take_21 : decode cX7_take 21 = .ok (.aload_n 0, 1) := by decide +kernel
theorem dX7_take_22 : decode cX7_take 22 = .ok (.getfield 7, 3) := by decide +kernel
theorem dX7_take_25 : decode cX7_take 25 = .ok (.iconst 0, 1) := by decide +kernel
theorem dX7_take_26 : decode cX7_take 26 = .ok (.dup2, 1) := by decide +kernel
theorem dX7_take_27 : decode cX7_take 27 = .ok (.iaload, 1) := by decide +kernel
theorem dX7_take_28 : decode cX7_take 28 = .ok (.iconst 1, 1) := by decide +kernel
theorem dX7_take_29 : decode cX7_take 29 = .ok (.isub, 1) := by decide +kernel
theorem dX7_take_30 : decode cX7_take 30 = .ok (.iastore, 1) := by decide +kernel
theorem dX7_take_31 : decode cX7_take 31 = .ok (.bipush 12, 2) := by decide +kernel
theorem dX7_take_33 : decode cX7_take 33 = .ok (.bipush 9, 2) := by decide +kernel
theorem dX7_take_35 : decode cX7_take 35 = .ok (.iload_n 1, 1) := by decide +kernel
theorem dX7_take_36 : decode cX7_take 36 = .ok (.imul, 1) := by decide +kernel
theorem dX7_take_37 : decode cX7_take 37 = .ok (.iadd, 1) := by decide +kernel
theorem dX7_take_38 : decode cX7_take 38 = .ok (.istore_n 3, 1) := by decide +kernel
theorem dX7_take_39 : decode cX7_take 39 = .ok (.iload_n 3, 1) := by decide +kernel
theorem dX7_take_40 : decode cX7_take 40 = .ok (.bipush 12, 2) := by decide +kernel
theorem dX7_take_42 : decode cX7_take 42 = .ok (.bipush 9, 2) := by decide +kernel
theorem dX7_take_44 : decode cX7_take 44 = .ok (.aload_n 0, 1) := by decide +kernel
theorem dX7_take_45 : decode cX7_take 45 = .ok (.getfield 7, 3) := by decide +kernel
theorem dX7_take_48 : decode cX7_take 48 = .ok (.iconst 0, 1) := by decide +kernel
theorem dX7_take_49 : decode cX7_take 49 = .ok (.iaload, 1) := by decide +kernel
theorem dX7_take_50 : decode cX7_take 50 = .ok (.imul, 1) := by decide +kernel
theorem dX7_take_51 : decode cX7_take 51 = .ok (.iadd, 1) := by decide +kernel
theorem dX7_take_52 : decode cX7_take 52 = .ok (.if_icmp .ge 24, 3) := by decide +kernel
theorem dX7_take_55 : decode cX7_take 55 = .ok (.aload_n 0, 1) := by decide +kernel
theorem dX7_take_56 : decode cX7_take 56 = .ok (.getfield 7, 3) := by decide +kernel
theorem dX7_take_59 : decode cX7_take 59 = .ok (.iload_n 3, 1) := by decide +kernel
theorem dX7_take_60 : decode cX7_take 60 = .ok (.aload_n 0, 1) := by decide +kernel
theorem dX7_take_61 : decode cX7_take 61 = .ok (.getfield 7, 3) := by decide +kernel
theorem dX7_take_64 : decode cX7_take 64 = .ok (.iload_n 3, 1) := by decide +kernel
theorem dX7_take_65 : decode cX7_take 65 = .ok (.bipush 9, 2) := by decide +kernel
theorem dX7_take_67 : decode cX7_take 67 = .ok (.iadd, 1) := by decide +kernel
theorem dX7_take_68 : decode cX7_take 68 = .ok (.iaload, 1) := by decide +kernel
theorem dX7_take_69 : decode cX7_take 69 = .ok (.iastore, 1) := by decide +kernel
theorem dX7_take_70 : decode cX7_take 70 = .ok (.iinc 3 1, 3) := by decide +kernel
theorem dX7_take_73 : decode cX7_take 73 = .ok (.goto (-34), 3) := by decide +kernel
theorem dX7_take_76 : decode cX7_take 76 = .ok (.iload_n 2, 1) := by decide +kernel
theorem dX7_take_77 : decode cX7_take 77 = .ok (.ireturn, 1) := by decide +kernel
theorem dX7_setPins_0 : decode cX7_setPins 0 = .ok (.aload_n 0, 1) := by decide +kernel
theorem dX7_setPins_1 : decode cX7_setPins 1 = .ok (.iload_n 1, 1) := by decide +kernel
theorem dX7_setPins_2 : decode cX7_setPins 2 = .ok (.invokevirtual 74, 3) := by decide +kernel
theorem dX7_setPins_5 : decode cX7_setPins 5 = .ok (.ifCond .ne 5, 3) := by decide +kernel
theorem dX7_setPins_8 : decode cX7_setPins 8 = .ok (.iconst (-1), 1) := by decide +kernel
theorem dX7_setPins_9 : decode cX7_setPins 9 = .ok (.ireturn, 1) := by decide +kernel
theorem dX7_setPins_10 : decode cX7_setPins 10 = .ok (.iload_n 2, 1) := by decide +kernel
theorem dX7_setPins_11 : decode cX7_setPins 11 = .ok (.iconst 0, 1) := by decide +kernel
theorem dX7_setPins_12 : decode cX7_setPins 12 = .ok (.sipush 255, 3) := by decide +kernel
theorem dX7_setPins_15 : decode cX7_setPins 15 = .ok (.invokestatic 28, 3) := by decide +kernel
theorem dX7_setPins_18 : decode cX7_setPins 18 = .ok (.ifCond .ne 6, 3) := by decide +kernel
theorem dX7_setPins_21 : decode cX7_setPins 21 = .ok (.bipush (-2), 2) := by decide +kernel
theorem dX7_setPins_23 : decode cX7_setPins 23 = .ok (.ireturn, 1) := by decide +kernel
theorem dX7_setPins_24 : decode cX7_setPins 24 = .ok (.aload_n 0, 1) := by decide +kernel
theorem dX7_setPins_25 : decode cX7_setPins 25 = .ok (.invokevirtual 44, 3) := by decide +kernel
theorem dX7_setPins_28 : decode cX7_setPins 28 = .ok (.aload_n 0, 1) := by decide +kernel
theorem dX7_setPins_29 : decode cX7_setPins 29 = .ok (.iload_n 1, 1) := by decide +kernel
theorem dX7_setPins_30 : decode cX7_setPins 30 = .ok (.iconst 3, 1) := by decide +kernel
theorem dX7_setPins_31 : decode cX7_setPins 31 = .ok (.invokevirtual 47, 3) := by decide +kernel
theorem dX7_setPins_34 : decode cX7_setPins 34 = .ok (.istore_n 3, 1) := by decide +kernel
theorem dX7_setPins_35 : decode cX7_setPins 35 = .ok (.aload_n 0, 1) := by decide +kernel
theorem dX7_setPins_36 : decode cX7_setPins 36 = .ok (.iload_n 1, 1) := by decide +kernel
theorem dX7_setPins_37 : decode cX7_setPins 37 = .ok (.iconst 3, 1) := by decide +kernel
theorem dX7_setPins_38 : decode cX7_setPins 38 = .ok (.iload_n 2, 1) := by decide +kernel
theorem dX7_setPins_39 : decode cX7_setPins 39 = .ok (.aload_n 0, 1) := by decide +kernel
theorem dX7_setPins_40 : decode cX7_setPins 40 = .ok (.iload_n 1, 1) := by decide +kernel
theorem dX7_setPins_41 : decode cX7_setPins 41 = .ok (.iconst 2, 1) := by decide +kernel
theorem dX7_setPins_42 : decode cX7_setPins 42 = .ok (.invokevirtual 47, 3) := by decide +kernel
theorem dX7_setPins_45 : decode cX7_setPins 45 = .ok (.invokestatic 62, 3) := by decide +kernel
theorem dX7_setPins_48 : decode cX7_setPins 48 = .ok (.iand, 1) := by decide +kernel
theorem dX7_setPins_49 : decode cX7_setPins 49 = .ok (.invokevirtual 58, 3) := by decide +kernel
theorem dX7_setPins_52 : decode cX7_setPins 52 = .ok (.iload_n 3, 1) := by decide +kernel
theorem dX7_setPins_53 : decode cX7_setPins 53 = .ok (.ireturn, 1) := by decide +kernel
theorem dX7_sum_0 : decode cX7_sum 0 = .ok (.iconst 0, 1) := by decide +kernel
theorem dX7_sum_1 : decode cX7_sum 1 = .ok (.istore_n 2, 1) := by decide +kernel
theorem dX7_sum_2 : decode cX7_sum 2 = .ok (.iconst 0, 1) := by decide +kernel
theorem dX7_sum_3 : decode cX7_sum 3 = .ok (.istore_n 3, 1) := by decide +kernel
theorem dX7_sum_4 : decode cX7_sum 4 = .ok (.iload_n 3, 1) := by decide +kernel
theorem dX7_sum_5 : decode cX7_sum 5 = .ok (.aload_n 0, 1) := by decide +kernel
theorem dX7_sum_6 : decode cX7_sum 6 = .ok (.getfield 7, 3) := by decide +kernel
theorem dX7_sum_9 : decode cX7_sum 9 = .ok (.iconst 0, 1) := by decide +kernel
theorem dX7_sum_10 : decode cX7_sum 10 = .ok (.iaload, 1) := by decide +kernel
theorem dX7_sum_11 : decode cX7_sum 11 = .ok (.if_icmp .ge 18, 3) := by decide +kernel
theorem dX7_sum_14 : decode cX7_sum 14 = .ok (.iload_n 2, 1) := by decide +kernel
theorem dX7_sum_15 : decode cX7_sum 15 = .ok (.aload_n 0, 1) := by decide +kernel
theorem dX7_sum_16 : decode cX7_sum 16 = .ok (.iload_n 3, 1) := by decide +kernel
theorem dX7_sum_17 : decode cX7_sum 17 = .ok (.iload_n 1, 1) := by decide +kernel
theorem dX7_sum_18 : decode cX7_sum 18 = .ok (.invokevirtual 47, 3) := by decide +kernel
theorem dX7_sum_21 : decode cX7_sum 21 = .ok (.iadd, 1) := by decide +kernel
theorem dX7_sum_22 : decode cX7_sum 22 = .ok (.istore_n 2, 1) := by decide +kernel
theorem dX7_sum_23 : decode cX7_sum 23 = .ok (.iinc 3 1, 3) := by decide +kernel
theorem dX7_sum_26 : decode cX7_sum 26 = .ok (.goto (-22), 3) := by decide +kernel
theorem dX7_sum_29 : decode cX7_sum 29 = .ok (.iload_n 2, 1) := by decide +kernel
theorem dX7_sum_30 : decode cX7_sum 30 = .ok (.ireturn, 1) := by decide +kernel
theorem dX7_breakChip_0 : decode cX7_breakChip 0 = .ok (.aload_n 0, 1) := by decide +kernel
theorem dX7_breakChip_1 : decode cX7_breakChip 1 = .ok (.iload_n 1, 1) := by decide +kernel
theorem dX7_breakChip_2 : decode cX7_breakChip 2 = .ok (.invokevirtual 74, 3) := by decide +kernel
theorem dX7_breakChip_5 : decode cX7_breakChip 5 = .ok (.ifCond .ne 5, 3) := by decide +kernel
theorem dX7_breakChip_8 : decode cX7_breakChip 8 = .ok (.iconst (-1), 1) := by decide +kernel
theorem dX7_breakChip_9 : decode cX7_breakChip 9 = .ok (.ireturn, 1) := by decide +kernel
theorem dX7_breakChip_10 : decode cX7_breakChip 10 = .ok (.aload_n 0, 1) := by decide +kernel
theorem dX7_breakChip_11 : decode cX7_breakChip 11 = .ok (.invokevirtual 44, 3) := by decide +kernel
theorem dX7_breakChip_14 : decode cX7_breakChip 14 = .ok (.aload_n 0, 1) := by decide +kernel
theorem dX7_breakChip_15 : decode cX7_breakChip 15 = .ok (.iload_n 1, 1) := by decide +kernel
theorem dX7_breakChip_16 : decode cX7_breakChip 16 = .ok (.iconst 5, 1) := by decide +kernel
theorem dX7_breakChip_17 : decode cX7_breakChip 17 = .ok (.iload_n 2, 1) := by decide +kernel
theorem dX7_breakChip_18 : decode cX7_breakChip 18 = .ok (.ifCond .eq 7, 3) := by decide +kernel
theorem dX7_breakChip_21 : decode cX7_breakChip 21 = .ok (.iconst 1, 1) := by decide +kernel
theorem dX7_breakChip_22 : decode cX7_breakChip 22 = .ok (.goto 4, 3) := by decide +kernel
theorem dX7_breakChip_25 : decode cX7_breakChip 25 = .ok (.iconst 0, 1) := by decide +kernel
theorem dX7_breakChip_26 : decode cX7_breakChip 26 = .ok (.invokevirtual 58, 3) := by decide +kernel
theorem dX7_breakChip_29 : decode cX7_breakChip 29 = .ok (.aload_n 0, 1) := by decide +kernel
theorem dX7_breakChip_30 : decode cX7_breakChip 30 = .ok (.iconst 5, 1) := by decide +kernel
theorem dX7_breakChip_31 : decode cX7_breakChip 31 = .ok (.invokevirtual 77, 3) := by decide +kernel
theorem dX7_breakChip_34 : decode cX7_breakChip 34 = .ok (.ireturn, 1) := by decide +kernel
theorem dX7_next_0 : decode cX7_next 0 = .ok (.iload_n 0, 1) := by decide +kernel
theorem dX7_next_1 : decode cX7_next 1 = .ok (.tableswitch 202 0 15 #[79, 89, 99, 121, 121, 131, 143, 155, 89, 110, 166, 166, 178, 190, 202, 89], 79) := by decide +kernel
theorem dX7_next_80 : decode cX7_next 80 = .ok (.iload_n 1, 1) := by decide +kernel
theorem dX7_next_81 : decode cX7_next 81 = .ok (.ifCond .ne 7, 3) := by decide +kernel
theorem dX7_next_84 : decode cX7_next 84 = .ok (.iconst 1, 1) := by decide +kernel
theorem dX7_next_85 : decode cX7_next 85 = .ok (.goto 4, 3) := by decide +kernel
theorem dX7_next_88 : decode cX7_next 88 = .ok (.iconst 0, 1) := by decide +kernel
theorem dX7_next_89 : decode cX7_next 89 = .ok (.ireturn, 1) := by decide +kernel
theorem dX7_next_90 : decode cX7_next 90 = .ok (.iload_n 1, 1) := by decide +kernel
theorem dX7_next_91 : decode cX7_next 91 = .ok (.ifCond .ne 7, 3) := by decide +kernel
theorem dX7_next_94 : decode cX7_next 94 = .ok (.iconst 1, 1) := by decide +kernel
theorem dX7_next_95 : decode cX7_next 95 = .ok (.goto 4, 3) := by decide +kernel
theorem dX7_next_98 : decode cX7_next 98 = .ok (.iconst 2, 1) := by decide +kernel
theorem dX7_next_99 : decode cX7_next 99 = .ok (.ireturn, 1) := by decide +kernel
theorem dX7_next_100 : decode cX7_next 100 = .ok (.iload_n 1, 1) := by decide +kernel
theorem dX7_next_101 : decode cX7_next 101 = .ok (.ifCond .ne 7, 3) := by decide +kernel
theorem dX7_next_104 : decode cX7_next 104 = .ok (.iconst 3, 1) := by decide +kernel
theorem dX7_next_105 : decode cX7_next 105 = .ok (.goto 5, 3) := by decide +kernel
theorem dX7_next_108 : decode cX7_next 108 = .ok (.bipush 9, 2) := by decide +kernel
theorem dX7_next_110 : decode cX7_next 110 = .ok (.ireturn, 1) := by decide +kernel
theorem dX7_next_111 : decode cX7_next 111 = .ok (.iload_n 1, 1) := by decide +kernel
theorem dX7_next_112 : decode cX7_next 112 = .ok (.ifCond .ne 8, 3) := by decide +kernel
theorem dX7_next_115 : decode cX7_next 115 = .ok (.bipush 10, 2) := by decide +kernel
theorem dX7_next_117 : decode cX7_next 117 = .ok (.goto 4, 3) := by decide +kernel
theorem dX7_next_120 : decode cX7_next 120 = .ok (.iconst 0, 1) := by decide +kernel
theorem dX7_next_121 : decode cX7_next 121 = .ok (.ireturn, 1) := by decide +kernel
theorem dX7_next_122 : decode cX7_next 122 = .ok (.iload_n 1, 1) := by decide +kernel
theorem dX7_next_123 : decode cX7_next 123 = .ok (.ifCond .ne 7, 3) := by decide +kernel
theorem dX7_next_126 : decode cX7_next 126 = .ok (.iconst 4, 1) := by decide +kernel
theorem dX7_next_127 : decode cX7_next 127 = .ok (.goto 4, 3) := by decide +kernel
theorem dX7_next_130 : decode cX7_next 130 = .ok (.iconst 5, 1) := by decide +kernel
theorem dX7_next_131 : decode cX7_next 131 = .ok (.ireturn, 1) := by decide +kernel
theorem dX7_next_132 : decode cX7_next 132 = .ok (.iload_n 1, 1) := by decide +kernel
theorem dX7_next_133 : decode cX7_next 133 = .ok (.ifCond .ne 8, 3) := by decide +kernel
theorem dX7_next_136 : decode cX7_next 136 = .ok (.bipush 6, 2) := by decide +kernel
theorem dX7_next_138 : decode cX7_next 138 = .ok (.goto 5, 3) := by decide +kernel
theorem dX7_next_141 : decode cX7_next 141 = .ok (.bipush 8, 2) := by decide +kernel
theorem dX7_next_143 : decode cX7_next 143 = .ok (.ireturn, 1) := by decide +kernel
theorem dX7_next_144 : decode cX7_next 144 = .ok (.iload_n 1, 1) := by decide +kernel
theorem dX7_next_145 : decode cX7_next 145 = .ok (.ifCond .ne 8, 3) := by decide +kernel
theorem dX7_next_148 : decode cX7_next 148 = .ok (.bipush 6, 2) := by decide +kernel
theorem dX7_next_150 : decode cX7_next 150 = .ok (.goto 5, 3) := by decide +kernel
theorem dX7_next_153 : decode cX7_next 153 = .ok (.bipush 7, 2) := by decide +kernel
theorem dX7_next_155 : decode cX7_next 155 = .ok (.ireturn, 1) := by decide +kernel
theorem dX7_next_156 : decode cX7_next 156 = .ok (.iload_n 1, 1) := by decide +kernel
theorem dX7_next_157 : decode cX7_next 157 = .ok (.ifCond .ne 7, 3) := by decide +kernel
theorem dX7_next_160 : decode cX7_next 160 = .ok (.iconst 4, 1) := by decide +kernel
theorem dX7_next_161 : decode cX7_next 161 = .ok (.goto 5, 3) := by decide +kernel
theorem dX7_next_164 : decode cX7_next 164 = .ok (.bipush 8, 2) := by decide +kernel
theorem dX7_next_166 : decode cX7_next 166 = .ok (.ireturn, 1) := by decide +kernel
theorem dX7_next_167 : decode cX7_next 167 = .ok (.iload_n 1, 1) := by decide +kernel
theorem dX7_next_168 : decode cX7_next 168 = .ok (.ifCond .ne 8, 3) := by decide +kernel
theorem dX7_next_171 : decode cX7_next 171 = .ok (.bipush 11, 2) := by decide +kernel
theorem dX7_next_173 : decode cX7_next 173 = .ok (.goto 5, 3) := by decide +kernel
theorem dX7_next_176 : decode cX7_next 176 = .ok (.bipush 12, 2) := by decide +kernel
theorem dX7_next_178 : decode cX7_next 178 = .ok (.ireturn, 1) := by decide +kernel
theorem dX7_next_179 : decode cX7_next 179 = .ok (.iload_n 1, 1) := by decide +kernel
theorem dX7_next_180 : decode cX7_next 180 = .ok (.ifCond .ne 8, 3) := by decide +kernel
theorem dX7_next_183 : decode cX7_next 183 = .ok (.bipush 13, 2) := by decide +kernel
theorem dX7_next_185 : decode cX7_next 185 = .ok (.goto 5, 3) := by decide +kernel
theorem dX7_next_188 : decode cX7_next 188 = .ok (.bipush 15, 2) := by decide +kernel
theorem dX7_next_190 : decode cX7_next 190 = .ok (.ireturn, 1) := by decide +kernel
theorem dX7_next_191 : decode cX7_next 191 = .ok (.iload_n 1, 1) := by decide +kernel
theorem dX7_next_192 : decode cX7_next 192 = .ok (.ifCond .ne 8, 3) := by decide +kernel
theorem dX7_next_195 : decode cX7_next 195 = .ok (.bipush 13, 2) := by decide +kernel
theorem dX7_next_197 : decode cX7_next 197 = .ok (.goto 5, 3) := by decide +kernel
theorem dX7_next_200 : decode cX7_next 200 = .ok (.bipush 14, 2) := by decide +kernel
theorem dX7_next_202 : decode cX7_next 202 = .ok (.ireturn, 1) := by decide +kernel
theorem dX7_next_203 : decode cX7_next 203 = .ok (.iload_n 1, 1) := by decide +kernel
theorem dX7_next_204 : decode cX7_next 204 = .ok (.ifCond .ne 8, 3) := by decide +kernel
theorem dX7_next_207 : decode cX7_next 207 = .ok (.bipush 11, 2) := by decide +kernel
theorem dX7_next_209 : decode cX7_next 209 = .ok (.goto 5, 3) := by decide +kernel
theorem dX7_next_212 : decode cX7_next 212 = .ok (.bipush 15, 2) := by decide +kernel
theorem dX7_next_214 : decode cX7_next 214 = .ok (.ireturn, 1) := by decide +kernel
theorem dX7_isShifting_0 : decode cX7_isShifting 0 = .ok (.aload_n 0, 1) := by decide +kernel
theorem dX7_isShifting_1 : decode cX7_isShifting 1 = .ok (.getfield 7, 3) := by decide +kernel
theorem dX7_isShifting_4 : decode cX7_isShifting 4 = .ok (.iconst 1, 1) := by decide +kernel
theorem dX7_isShifting_5 : decode cX7_isShifting 5 = .ok (.iaload, 1) := by decide +kernel
theorem dX7_isShifting_6 : decode cX7_isShifting 6 = .ok (.iconst 4, 1) := by decide +kernel
theorem dX7_isShifting_7 : decode cX7_isShifting 7 = .ok (.if_icmp .eq 14, 3) := by decide +kernel
theorem dX7_isShifting_10 : decode cX7_isShifting 10 = .ok (.aload_n 0, 1) := by decide +kernel
theorem dX7_isShifting_11 : decode cX7_isShifting 11 = .ok (.getfield 7, 3) := by decide +kernel
theorem dX7_isShifting_14 : decode cX7_isShifting 14 = .ok (.iconst 1, 1) := by decide +kernel
theorem dX7_isShifting_15 : decode cX7_isShifting 15 = .ok (.iaload, 1) := by decide +kernel
theorem dX7_isShifting_16 : decode cX7_isShifting 16 = .ok (.bipush 11, 2) := by decide +kernel
theorem dX7_isShifting_18 : decode cX7_isShifting 18 = .ok (.if_icmp .ne 7, 3) := by decide +kernel
theorem dX7_isShifting_21 : decode cX7_isShifting 21 = .ok (.iconst 1, 1) := by decide +kernel
theorem dX7_isShifting_22 : decode cX7_isShifting 22 = .ok (.goto 4, 3) := by decide +kernel
theorem dX7_isShifting_25 : decode cX7_isShifting 25 = .ok (.iconst 0, 1) := by decide +kernel
theorem dX7_isShifting_26 : decode cX7_isShifting 26 = .ok (.ireturn, 1) := by decide +kernel
theorem dX7_shifted_0 : decode cX7_shifted 0 = .ok (.aload_n 0, 1) := by decide +kernel
theorem dX7_shifted_1 : decode cX7_shifted 1 = .ok (.getfield 7, 3) := by decide +kernel
theorem dX7_shifted_4 : decode cX7_shifted 4 = .ok (.iconst 1, 1) := by decide +kernel
theorem dX7_shifted_5 : decode cX7_shifted 5 = .ok (.iaload, 1) := by decide +kernel
theorem dX7_shifted_6 : decode cX7_shifted 6 = .ok (.iconst 4, 1) := by decide +kernel
theorem dX7_shifted_7 : decode cX7_shifted 7 = .ok (.if_icmp .ne 8, 3) := by decide +kernel
theorem dX7_shifted_10 : decode cX7_shifted 10 = .ok (.bipush 8, 2) := by decide +kernel
theorem dX7_shifted_12 : decode cX7_shifted 12 = .ok (.goto 5, 3) := by decide +kernel
theorem dX7_shifted_15 : decode cX7_shifted 15 = .ok (.bipush 7, 2) := by decide +kernel
theorem dX7_shifted_17 : decode cX7_shifted 17 = .ok (.ireturn, 1) := by decide +kernel
theorem dX7_outputOf_0 : decode cX7_outputOf 0 = .ok (.aload_n 0, 1) := by decide +kernel
theorem dX7_outputOf_1 : decode cX7_outputOf 1 = .ok (.iload_n 1, 1) := by decide +kernel
theorem dX7_outputOf_2 : decode cX7_outputOf 2 = .ok (.iconst 5, 1) := by decide +kernel
theorem dX7_outputOf_3 : decode cX7_outputOf 3 = .ok (.invokevirtual 47, 3) := by decide +kernel
theorem dX7_outputOf_6 : decode cX7_outputOf 6 = .ok (.iconst 1, 1) := by decide +kernel
theorem dX7_outputOf_7 : decode cX7_outputOf 7 = .ok (.if_icmp .ne 7, 3) := by decide +kernel
theorem dX7_outputOf_10 : decode cX7_outputOf 10 = .ok (.iconst 1, 1) := by decide +kernel
theorem dX7_outputOf_11 : decode cX7_outputOf 11 = .ok (.goto 14, 3) := by decide +kernel
theorem dX7_outputOf_14 : decode cX7_outputOf 14 = .ok (.aload_n 0, 1) := by decide +kernel
theorem dX7_outputOf_15 : decode cX7_outputOf 15 = .ok (.iload_n 1, 1) := by decide +kernel
theorem dX7_outputOf_16 : decode cX7_outputOf 16 = .ok (.aload_n 0, 1) := by decide +kernel
theorem dX7_outputOf_17 : decode cX7_outputOf 17 = .ok (.invokevirtual 80, 3) := by decide +kernel
theorem dX7_outputOf_20 : decode cX7_outputOf 20 = .ok (.invokevirtual 47, 3) := by decide +kernel
theorem dX7_outputOf_23 : decode cX7_outputOf 23 = .ok (.iconst 1, 1) := by decide +kernel
theorem dX7_outputOf_24 : decode cX7_outputOf 24 = .ok (.iand, 1) := by decide +kernel
theorem dX7_outputOf_25 : decode cX7_outputOf 25 = .ok (.ireturn, 1) := by decide +kernel
theorem dX7_output_0 : decode cX7_output 0 = .ok (.aload_n 0, 1) := by decide +kernel
theorem dX7_output_1 : decode cX7_output 1 = .ok (.invokevirtual 84, 3) := by decide +kernel
theorem dX7_output_4 : decode cX7_output 4 = .ok (.ifCond .ne 7, 3) := by decide +kernel
theorem dX7_output_7 : decode cX7_output 7 = .ok (.iconst 1, 1) := by decide +kernel
theorem dX7_output_8 : decode cX7_output 8 = .ok (.goto 28, 3) := by decide +kernel
theorem dX7_output_11 : decode cX7_output 11 = .ok (.aload_n 0, 1) := by decide +kernel
theorem dX7_output_12 : decode cX7_output 12 = .ok (.getfield 7, 3) := by decide +kernel
theorem dX7_output_15 : decode cX7_output 15 = .ok (.iconst 0, 1) := by decide +kernel
theorem dX7_output_16 : decode cX7_output 16 = .ok (.iaload, 1) := by decide +kernel
theorem dX7_output_17 : decode cX7_output 17 = .ok (.ifCond .ne 7, 3) := by decide +kernel
theorem dX7_output_20 : decode cX7_output 20 = .ok (.iload_n 1, 1) := by decide +kernel
theorem dX7_output_21 : decode cX7_output 21 = .ok (.goto 15, 3) := by decide +kernel
theorem dX7_output_24 : decode cX7_output 24 = .ok (.aload_n 0, 1) := by decide +kernel
theorem dX7_output_25 : decode cX7_output 25 = .ok (.aload_n 0, 1) := by decide +kernel
theorem dX7_output_26 : decode cX7_output 26 = .ok (.getfield 7, 3) := by decide +kernel
theorem dX7_output_29 : decode cX7_output 29 = .ok (.iconst 0, 1) := by decide +kernel
theorem dX7_output_30 : decode cX7_output 30 = .ok (.iaload, 1) := by decide +kernel
theorem dX7_output_31 : decode cX7_output 31 = .ok (.iconst 1, 1) := by decide +kernel
theorem dX7_output_32 : decode cX7_output 32 = .ok (.isub, 1) := by decide +kernel
theorem dX7_output_33 : decode cX7_output 33 = .ok (.invokevirtual 88, 3) := by decide +kernel
theorem dX7_output_36 : decode cX7_output 36 = .ok (.ireturn, 1) := by decide +kernel
theorem dX7_shift_0 : decode cX7_shift 0 = .ok (.aload_n 0, 1) := by decide +kernel
theorem dX7_shift_1 : decode cX7_shift 1 = .ok (.invokevirtual 80, 3) := by decide +kernel
theorem dX7_shift_4 : decode cX7_shift 4 = .ok (.istore_n 2, 1) := by decide +kernel
theorem dX7_shift_5 : decode cX7_shift 5 = .ok (.aload_n 0, 1) := by decide +kernel
theorem dX7_shift_6 : decode cX7_shift 6 = .ok (.getfield 7, 3) := by decide +kernel
theorem dX7_shift_9 : decode cX7_shift 9 = .ok (.iconst 0, 1) := by decide +kernel
theorem dX7_shift_10 : decode cX7_shift 10 = .ok (.iaload, 1) := by decide +kernel
theorem dX7_shift_11 : decode cX7_shift 11 = .ok (.iconst 1, 1) := by decide +kernel
theorem dX7_shift_12 : decode cX7_shift 12 = .ok (.isub, 1) := by decide +kernel
theorem dX7_shift_13 : decode cX7_shift 13 = .ok (.istore_n 3, 1) := by decide +kernel
theorem dX7_shift_14 : decode cX7_shift 14 = .ok (.iload_n 3, 1) := by decide +kernel
theorem dX7_shift_15 : decode cX7_shift 15 = .ok (.ifCond .lt 70, 3) := by decide +kernel
theorem dX7_shift_18 : decode cX7_shift 18 = .ok (.iload_n 3, 1) := by decide +kernel
theorem dX7_shift_19 : decode cX7_shift 19 = .ok (.ifCond .ne 7, 3) := by decide +kernel
theorem dX7_shift_22 : decode cX7_shift 22 = .ok (.iload_n 1, 1) := by decide +kernel
theorem dX7_shift_23 : decode cX7_shift 23 = .ok (.goto 10, 3) := by decide +kernel
theorem dX7_shift_26 : decode cX7_shift 26 = .ok (.aload_n 0, 1) := by decide +kernel
theorem dX7_shift_27 : decode cX7_shift 27 = .ok (.iload_n 3, 1) := by decide +kernel
theorem dX7_shift_28 : decode cX7_shift 28 = .ok (.iconst 1, 1) := by decide +kernel
theorem dX7_shift_29 : decode cX7_shift 29 = .ok (.isub, 1) := by decide +kernel
theorem dX7_shift_30 : decode cX7_shift 30 = .ok (.invokevirtual 88, 3) := by decide +kernel
theorem dX7_shift_33 : decode cX7_shift 33 = .ok (.istore 4, 2) := by decide +kernel
theorem dX7_shift_35 : decode cX7_shift 35 = .ok (.iload_n 2, 1) := by decide +kernel
theorem dX7_shift_36 : decode cX7_shift 36 = .ok (.bipush 8, 2) := by decide +kernel
theorem dX7_shift_38 : decode cX7_shift 38 = .ok (.if_icmp .ne 11, 3) := by decide +kernel
theorem dX7_shift_41 : decode cX7_shift 41 = .ok (.aload_n 0, 1) := by decide +kernel
theorem dX7_shift_42 : decode cX7_shift 42 = .ok (.iload_n 3, 1) := by decide +kernel
theorem dX7_shift_43 : decode cX7_shift 43 = .ok (.invokevirtual 91, 3) := by decide +kernel
theorem dX7_shift_46 : decode cX7_shift 46 = .ok (.goto 9, 3) := by decide +kernel
theorem dX7_shift_49 : decode cX7_shift 49 = .ok (.aload_n 0, 1) := by decide +kernel
theorem dX7_shift_50 : decode cX7_shift 50 = .ok (.iload_n 3, 1) := by decide +kernel
theorem dX7_shift_51 : decode cX7_shift 51 = .ok (.iconst 0, 1) := by decide +kernel
theorem dX7_shift_52 : decode cX7_shift 52 = .ok (.invokevirtual 47, 3) := by decide +kernel
theorem dX7_shift_55 : decode cX7_shift 55 = .ok (.istore 5, 2) := by decide +kernel
theorem dX7_shift_57 : decode cX7_shift 57 = .ok (.aload_n 0, 1) := by decide +kernel
theorem dX7_shift_58 : decode cX7_shift 58 = .ok (.iload_n 3, 1) := by decide +kernel
theorem dX7_shift_59 : decode cX7_shift 59 = .ok (.iload_n 2, 1) := by decide +kernel
theorem dX7_shift_60 : decode cX7_shift 60 = .ok (.aload_n 0, 1) := by decide +kernel
theorem dX7_shift_61 : decode cX7_shift 61 = .ok (.iload_n 3, 1) := by decide +kernel
theorem dX7_shift_62 : decode cX7_shift 62 = .ok (.iload_n 2, 1) := by decide +kernel
theorem dX7_shift_63 : decode cX7_shift 63 = .ok (.invokevirtual 47, 3) := by decide +kernel
theorem dX7_shift_66 : decode cX7_shift 66 = .ok (.iconst 1, 1) := by decide +kernel
theorem dX7_shift_67 : decode cX7_shift 67 = .ok (.ishr, 1) := by decide +kernel
theorem dX7_shift_68 : decode cX7_shift 68 = .ok (.iload 4, 2) := by decide +kernel
theorem dX7_shift_70 : decode cX7_shift 70 = .ok (.iload 5, 2) := by decide +kernel
theorem dX7_shift_72 : decode cX7_shift 72 = .ok (.iconst 1, 1) := by decide +kernel
theorem dX7_shift_73 : decode cX7_shift 73 = .ok (.isub, 1) := by decide +kernel
theorem dX7_shift_74 : decode cX7_shift 74 = .ok (.ishl, 1) := by decide +kernel
theorem dX7_shift_75 : decode cX7_shift 75 = .ok (.ior, 1) := by decide +kernel
theorem dX7_shift_76 : decode cX7_shift 76 = .ok (.invokevirtual 58, 3) := by decide +kernel
theorem dX7_shift_79 : decode cX7_shift 79 = .ok (.iinc 3 (-1), 3) := by decide +kernel
theorem dX7_shift_82 : decode cX7_shift 82 = .ok (.goto (-68), 3) := by decide +kernel
theorem dX7_shift_85 : decode cX7_shift 85 = .ok (.return_, 1) := by decide +kernel
theorem dX7_work_0 : decode cX7_work 0 = .ok (.aload_n 0, 1) := by decide +kernel
theorem dX7_work_1 : decode cX7_work 1 = .ok (.getfield 7, 3) := by decide +kernel
theorem dX7_work_4 : decode cX7_work 4 = .ok (.iconst 1, 1) := by decide +kernel
theorem dX7_work_5 : decode cX7_work 5 = .ok (.iaload, 1) := by decide +kernel
theorem dX7_work_6 : decode cX7_work 6 = .ok (.lookupswitch 164 #[(0, 50), (3, 58), (8, 114), (10, 103), (15, 149)], 50) := by decide +kernel
theorem dX7_work_56 : decode cX7_work 56 = .ok (.aload_n 0, 1) := by decide +kernel
theorem dX7_work_57 : decode cX7_work 57 = .ok (.iload_n 1, 1) := by decide +kernel
theorem dX7_work_58 : decode cX7_work 58 = .ok (.invokevirtual 70, 3) := by decide +kernel
theorem dX7_work_61 : decode cX7_work 61 = .ok (.goto 109, 3) := by decide +kernel
theorem dX7_work_64 : decode cX7_work 64 = .ok (.aload_n 0, 1) := by decide +kernel
theorem dX7_work_65 : decode cX7_work 65 = .ok (.iload_n 1, 1) := by decide +kernel
theorem dX7_work_66 : decode cX7_work 66 = .ok (.bipush 8, 2) := by decide +kernel
theorem dX7_work_68 : decode cX7_work 68 = .ok (.aload_n 0, 1) := by decide +kernel
theorem dX7_work_69 : decode cX7_work 69 = .ok (.iload_n 1, 1) := by decide +kernel
theorem dX7_work_70 : decode cX7_work 70 = .ok (.invokevirtual 51, 3) := by decide +kernel
theorem dX7_work_73 : decode cX7_work 73 = .ok (.ifCond .eq 12, 3) := by decide +kernel
theorem dX7_work_76 : decode cX7_work 76 = .ok (.aload_n 0, 1) := by decide +kernel
theorem dX7_work_77 : decode cX7_work 77 = .ok (.iload_n 1, 1) := by decide +kernel
theorem dX7_work_78 : decode cX7_work 78 = .ok (.iconst 3, 1) := by decide +kernel
theorem dX7_work_79 : decode cX7_work 79 = .ok (.invokevirtual 47, 3) := by decide +kernel
theorem dX7_work_82 : decode cX7_work 82 = .ok (.goto 21, 3) := by decide +kernel
theorem dX7_work_85 : decode cX7_work 85 = .ok (.aload_n 0, 1) := by decide +kernel
theorem dX7_work_86 : decode cX7_work 86 = .ok (.iload_n 1, 1) := by decide +kernel
theorem dX7_work_87 : decode cX7_work 87 = .ok (.invokevirtual 55, 3) := by decide +kernel
theorem dX7_work_90 : decode cX7_work 90 = .ok (.ifCond .eq 12, 3) := by decide +kernel
theorem dX7_work_93 : decode cX7_work 93 = .ok (.aload_n 0, 1) := by decide +kernel
theorem dX7_work_94 : decode cX7_work 94 = .ok (.iload_n 1, 1) := by decide +kernel
theorem dX7_work_95 : decode cX7_work 95 = .ok (.iconst 1, 1) := by decide +kernel
theorem dX7_work_96 : decode cX7_work 96 = .ok (.invokevirtual 47, 3) := by decide +kernel
theorem dX7_work_99 : decode cX7_work 99 = .ok (.goto 4, 3) := by decide +kernel
theorem dX7_work_102 : decode cX7_work 102 = .ok (.iconst 0, 1) := by decide +kernel
theorem dX7_work_103 : decode cX7_work 103 = .ok (.invokevirtual 58, 3) := by decide +kernel
theorem dX7_work_106 : decode cX7_work 106 = .ok (.goto 64, 3) := by decide +kernel
theorem dX7_work_109 : decode cX7_work 109 = .ok (.aload_n 0, 1) := by decide +kernel
theorem dX7_work_110 : decode cX7_work 110 = .ok (.iload_n 1, 1) := by decide +kernel
theorem dX7_work_111 : decode cX7_work 111 = .ok (.bipush 7, 2) := by decide +kernel
theorem dX7_work_113 : decode cX7_work 113 = .ok (.iconst 1, 1) := by decide +kernel
theorem dX7_work_114 : decode cX7_work 114 = .ok (.invokevirtual 58, 3) := by decide +kernel
theorem dX7_work_117 : decode cX7_work 117 = .ok (.goto 53, 3) := by decide +kernel
theorem dX7_work_120 : decode cX7_work 120 = .ok (.aload_n 0, 1) := by decide +kernel
theorem dX7_work_121 : decode cX7_work 121 = .ok (.iload_n 1, 1) := by decide +kernel
theorem dX7_work_122 : decode cX7_work 122 = .ok (.iconst 4, 1) := by decide +kernel
theorem dX7_work_123 : decode cX7_work 123 = .ok (.aload_n 0, 1) := by decide +kernel
theorem dX7_work_124 : decode cX7_work 124 = .ok (.iload_n 1, 1) := by decide +kernel
theorem dX7_work_125 : decode cX7_work 125 = .ok (.bipush 6, 2) := by decide +kernel
theorem dX7_work_127 : decode cX7_work 127 = .ok (.invokevirtual 47, 3) := by decide +kernel
theorem dX7_work_130 : decode cX7_work 130 = .ok (.ifCond .ne 13, 3) := by decide +kernel
theorem dX7_work_133 : decode cX7_work 133 = .ok (.aload_n 0, 1) := by decide +kernel
theorem dX7_work_134 : decode cX7_work 134 = .ok (.iload_n 1, 1) := by decide +kernel
theorem dX7_work_135 : decode cX7_work 135 = .ok (.bipush 8, 2) := by decide +kernel
theorem dX7_work_137 : decode cX7_work 137 = .ok (.invokevirtual 47, 3) := by decide +kernel
theorem dX7_work_140 : decode cX7_work 140 = .ok (.goto 9, 3) := by decide +kernel
theorem dX7_work_143 : decode cX7_work 143 = .ok (.aload_n 0, 1) := by decide +kernel
theorem dX7_work_144 : decode cX7_work 144 = .ok (.iload_n 1, 1) := by decide +kernel
theorem dX7_work_145 : decode cX7_work 145 = .ok (.iconst 4, 1) := by decide +kernel
theorem dX7_work_146 : decode cX7_work 146 = .ok (.invokevirtual 47, 3) := by decide +kernel
theorem dX7_work_149 : decode cX7_work 149 = .ok (.invokevirtual 58, 3) := by decide +kernel
theorem dX7_work_152 : decode cX7_work 152 = .ok (.goto 18, 3) := by decide +kernel
theorem dX7_work_155 : decode cX7_work 155 = .ok (.aload_n 0, 1) := by decide +kernel
theorem dX7_work_156 : decode cX7_work 156 = .ok (.iload_n 1, 1) := by decide +kernel
theorem dX7_work_157 : decode cX7_work 157 = .ok (.aload_n 0, 1) := by decide +kernel
theorem dX7_work_158 : decode cX7_work 158 = .ok (.iload_n 1, 1) := by decide +kernel
theorem dX7_work_159 : decode cX7_work 159 = .ok (.bipush 7, 2) := by decide +kernel
theorem dX7_work_161 : decode cX7_work 161 = .ok (.invokevirtual 47, 3) := by decide +kernel
theorem dX7_work_164 : decode cX7_work 164 = .ok (.invokevirtual 66, 3) := by decide +kernel
theorem dX7_work_167 : decode cX7_work 167 = .ok (.goto 3, 3) := by decide +kernel
theorem dX7_work_170 : decode cX7_work 170 = .ok (.return_, 1) := by decide +kernel
theorem dX7_clockNow_0 : decode cX7_clockNow 0 = .ok (.aload_n 0, 1) := by decide +kernel
theorem dX7_clockNow_1 : decode cX7_clockNow 1 = .ok (.iload_n 2, 1) := by decide +kernel
theorem dX7_clockNow_2 : decode cX7_clockNow 2 = .ok (.invokevirtual 94, 3) := by decide +kernel
theorem dX7_clockNow_5 : decode cX7_clockNow 5 = .ok (.istore_n 3, 1) := by decide +kernel
theorem dX7_clockNow_6 : decode cX7_clockNow 6 = .ok (.aload_n 0, 1) := by decide +kernel
theorem dX7_clockNow_7 : decode cX7_clockNow 7 = .ok (.invokevirtual 84, 3) := by decide +kernel
theorem dX7_clockNow_10 : decode cX7_clockNow 10 = .ok (.ifCond .eq 8, 3) := by decide +kernel
theorem dX7_clockNow_13 : decode cX7_clockNow 13 = .ok (.aload_n 0, 1) := by decide +kernel
theorem dX7_clockNow_14 : decode cX7_clockNow 14 = .ok (.iload_n 2, 1) := by decide +kernel
theorem dX7_clockNow_15 : decode cX7_clockNow 15 = .ok (.invokevirtual 97, 3) := by decide +kernel
theorem dX7_clockNow_18 : decode cX7_clockNow 18 = .ok (.iconst 0, 1) := by decide +kernel
theorem dX7_clockNow_19 : decode cX7_clockNow 19 = .ok (.istore 4, 2) := by decide +kernel
theorem dX7_clockNow_21 : decode cX7_clockNow 21 = .ok (.iload 4, 2) := by decide +kernel
theorem dX7_clockNow_23 : decode cX7_clockNow 23 = .ok (.aload_n 0, 1) := by decide +kernel
theorem dX7_clockNow_24 : decode cX7_clockNow 24 = .ok (.getfield 7, 3) := by decide +kernel
theorem dX7_clockNow_27 : decode cX7_clockNow 27 = .ok (.iconst 0, 1) := by decide +kernel
theorem dX7_clockNow_28 : decode cX7_clockNow 28 = .ok (.iaload, 1) := by decide +kernel
theorem dX7_clockNow_29 : decode cX7_clockNow 29 = .ok (.if_icmp .ge 15, 3) := by decide +kernel
theorem dX7_clockNow_32 : decode cX7_clockNow 32 = .ok (.aload_n 0, 1) := by decide +kernel
theorem dX7_clockNow_33 : decode cX7_clockNow 33 = .ok (.iload 4, 2) := by decide +kernel
theorem dX7_clockNow_35 : decode cX7_clockNow 35 = .ok (.invokevirtual 100, 3) := by decide +kernel
theorem dX7_clockNow_38 : decode cX7_clockNow 38 = .ok (.iinc 4 1, 3) := by decide +kernel
theorem dX7_clockNow_41 : decode cX7_clockNow 41 = .ok (.goto (-20), 3) := by decide +kernel
theorem dX7_clockNow_44 : decode cX7_clockNow 44 = .ok (.aload_n 0, 1) := by decide +kernel
theorem dX7_clockNow_45 : decode cX7_clockNow 45 = .ok (.getfield 7, 3) := by decide +kernel
theorem dX7_clockNow_48 : decode cX7_clockNow 48 = .ok (.iconst 1, 1) := by decide +kernel
theorem dX7_clockNow_49 : decode cX7_clockNow 49 = .ok (.aload_n 0, 1) := by decide +kernel
theorem dX7_clockNow_50 : decode cX7_clockNow 50 = .ok (.getfield 7, 3) := by decide +kernel
theorem dX7_clockNow_53 : decode cX7_clockNow 53 = .ok (.iconst 1, 1) := by decide +kernel
theorem dX7_clockNow_54 : decode cX7_clockNow 54 = .ok (.iaload, 1) := by decide +kernel
theorem dX7_clockNow_55 : decode cX7_clockNow 55 = .ok (.iload_n 1, 1) := by decide +kernel
theorem dX7_clockNow_56 : decode cX7_clockNow 56 = .ok (.invokestatic 103, 3) := by decide +kernel
theorem dX7_clockNow_59 : decode cX7_clockNow 59 = .ok (.iastore, 1) := by decide +kernel
theorem dX7_clockNow_60 : decode cX7_clockNow 60 = .ok (.aload_n 0, 1) := by decide +kernel
theorem dX7_clockNow_61 : decode cX7_clockNow 61 = .ok (.getfield 7, 3) := by decide +kernel
theorem dX7_clockNow_64 : decode cX7_clockNow 64 = .ok (.iconst 2, 1) := by decide +kernel
theorem dX7_clockNow_65 : decode cX7_clockNow 65 = .ok (.dup2, 1) := by decide +kernel
theorem dX7_clockNow_66 : decode cX7_clockNow 66 = .ok (.iaload, 1) := by decide +kernel
theorem dX7_clockNow_67 : decode cX7_clockNow 67 = .ok (.iconst 1, 1) := by decide +kernel
theorem dX7_clockNow_68 : decode cX7_clockNow 68 = .ok (.iadd, 1) := by decide +kernel
theorem dX7_clockNow_69 : decode cX7_clockNow 69 = .ok (.iastore, 1) := by decide +kernel
theorem dX7_clockNow_70 : decode cX7_clockNow 70 = .ok (.iload_n 3, 1) := by decide +kernel
theorem dX7_clockNow_71 : decode cX7_clockNow 71 = .ok (.ireturn, 1) := by decide +kernel
theorem dX7_clock_0 : decode cX7_clock 0 = .ok (.iload_n 1, 1) := by decide +kernel
theorem dX7_clock_1 : decode cX7_clock 1 = .ok (.iconst 0, 1) := by decide +kernel
theorem dX7_clock_2 : decode cX7_clock 2 = .ok (.iconst 1, 1) := by decide +kernel
theorem dX7_clock_3 : decode cX7_clock 3 = .ok (.invokestatic 28, 3) := by decide +kernel
theorem dX7_clock_6 : decode cX7_clock 6 = .ok (.ifCond .eq 12, 3) := by decide +kernel
theorem dX7_clock_9 : decode cX7_clock 9 = .ok (.iload_n 2, 1) := by decide +kernel
theorem dX7_clock_10 : decode cX7_clock 10 = .ok (.iconst 0, 1) := by decide +kernel
theorem dX7_clock_11 : decode cX7_clock 11 = .ok (.iconst 1, 1) := by decide +kernel
theorem dX7_clock_12 : decode cX7_clock 12 = .ok (.invokestatic 28, 3) := by decide +kernel
theorem dX7_clock_15 : decode cX7_clock 15 = .ok (.ifCond .ne 6, 3) := by decide +kernel
theorem dX7_clock_18 : decode cX7_clock 18 = .ok (.bipush (-2), 2) := by decide +kernel
theorem dX7_clock_20 : decode cX7_clock 20 = .ok (.ireturn, 1) := by decide +kernel
theorem dX7_clock_21 : decode cX7_clock 21 = .ok (.aload_n 0, 1) := by decide +kernel
theorem dX7_clock_22 : decode cX7_clock 22 = .ok (.invokevirtual 44, 3) := by decide +kernel
theorem dX7_clock_25 : decode cX7_clock 25 = .ok (.aload_n 0, 1) := by decide +kernel
theorem dX7_clock_26 : decode cX7_clock 26 = .ok (.iload_n 1, 1) := by decide +kernel
theorem dX7_clock_27 : decode cX7_clock 27 = .ok (.iload_n 2, 1) := by decide +kernel
theorem dX7_clock_28 : decode cX7_clock 28 = .ok (.invokevirtual 106, 3) := by decide +kernel
theorem dX7_clock_31 : decode cX7_clock 31 = .ok (.ireturn, 1) := by decide +kernel
theorem dX7_measure_0 : decode cX7_measure 0 = .ok (.iconst 0, 1) := by decide +kernel
theorem dX7_measure_1 : decode cX7_measure 1 = .ok (.istore_n 2, 1) := by decide +kernel
theorem dX7_measure_2 : decode cX7_measure 2 = .ok (.iload_n 2, 1) := by decide +kernel
theorem dX7_measure_3 : decode cX7_measure 3 = .ok (.bipush 16, 2) := by decide +kernel
theorem dX7_measure_5 : decode cX7_measure 5 = .ok (.if_icmp .ge 26, 3) := by decide +kernel
theorem dX7_measure_8 : decode cX7_measure 8 = .ok (.aload_n 0, 1) := by decide +kernel
theorem dX7_measure_9 : decode cX7_measure 9 = .ok (.getfield 25, 3) := by decide +kernel
theorem dX7_measure_12 : decode cX7_measure 12 = .ok (.iload_n 2, 1) := by decide +kernel
theorem dX7_measure_13 : decode cX7_measure 13 = .ok (.iload_n 2, 1) := by decide +kernel
theorem dX7_measure_14 : decode cX7_measure 14 = .ok (.iload_n 1, 1) := by decide +kernel
theorem dX7_measure_15 : decode cX7_measure 15 = .ok (.if_icmp .ne 7, 3) := by decide +kernel
theorem dX7_measure_18 : decode cX7_measure 18 = .ok (.iconst 0, 1) := by decide +kernel
theorem dX7_measure_19 : decode cX7_measure 19 = .ok (.goto 5, 3) := by decide +kernel
theorem dX7_measure_22 : decode cX7_measure 22 = .ok (.bipush 16, 2) := by decide +kernel
theorem dX7_measure_24 : decode cX7_measure 24 = .ok (.iastore, 1) := by decide +kernel
theorem dX7_measure_25 : decode cX7_measure 25 = .ok (.iinc 2 1, 3) := by decide +kernel
theorem dX7_measure_28 : decode cX7_measure 28 = .ok (.goto (-26), 3) := by decide +kernel
theorem dX7_measure_31 : decode cX7_measure 31 = .ok (.iconst 0, 1) := by decide +kernel
theorem dX7_measure_32 : decode cX7_measure 32 = .ok (.istore_n 2, 1) := by decide +kernel
theorem dX7_measure_33 : decode cX7_measure 33 = .ok (.iload_n 2, 1) := by decide +kernel
theorem dX7_measure_34 : decode cX7_measure 34 = .ok (.bipush 16, 2) := by decide +kernel
theorem dX7_measure_36 : decode cX7_measure 36 = .ok (.if_icmp .ge 81, 3) := by decide +kernel
theorem dX7_measure_39 : decode cX7_measure 39 = .ok (.iconst 0, 1) := by decide +kernel
theorem dX7_measure_40 : decode cX7_measure 40 = .ok (.istore_n 3, 1) := by decide +kernel
theorem dX7_measure_41 : decode cX7_measure 41 = .ok (.iload_n 3, 1) := by decide +kernel
theorem dX7_measure_42 : decode cX7_measure 42 = .ok (.bipush 16, 2) := by decide +kernel
theorem dX7_measure_44 : decode cX7_measure 44 = .ok (.if_icmp .ge 67, 3) := by decide +kernel
theorem dX7_measure_47 : decode cX7_measure 47 = .ok (.iconst 0, 1) := by decide +kernel
theorem dX7_measure_48 : decode cX7_measure 48 = .ok (.istore 4, 2) := by decide +kernel
theorem dX7_measure_50 : decode cX7_measure 50 = .ok (.iload 4, 2) := by decide +kernel
theorem dX7_measure_52 : decode cX7_measure 52 = .ok (.iconst 2, 1) := by decide +kernel
theorem dX7_measure_53 : decode cX7_measure 53 = .ok (.if_icmp .ge 52, 3) := by decide +kernel
theorem dX7_measure_56 : decode cX7_measure 56 = .ok (.aload_n 0, 1) := by decide +kernel
theorem dX7_measure_57 : decode cX7_measure 57 = .ok (.getfield 25, 3) := by decide +kernel
theorem dX7_measure_60 : decode cX7_measure 60 = .ok (.iload_n 3, 1) := by decide +kernel
theorem dX7_measure_61 : decode cX7_measure 61 = .ok (.iload 4, 2) := by decide +kernel
theorem dX7_measure_63 : decode cX7_measure 63 = .ok (.invokestatic 103, 3) := by decide +kernel
theorem dX7_measure_66 : decode cX7_measure 66 = .ok (.iaload, 1) := by decide +kernel
theorem dX7_measure_67 : decode cX7_measure 67 = .ok (.iconst 1, 1) := by decide +kernel
theorem dX7_measure_68 : decode cX7_measure 68 = .ok (.iadd, 1) := by decide +kernel
theorem dX7_measure_69 : decode cX7_measure 69 = .ok (.istore 5, 2) := by decide +kernel
theorem dX7_measure_71 : decode cX7_measure 71 = .ok (.aload_n 0, 1) := by decide +kernel
theorem dX7_measure_72 : decode cX7_measure 72 = .ok (.getfield 25, 3) := by decide +kernel
theorem dX7_measure_75 : decode cX7_measure 75 = .ok (.iload_n 3, 1) := by decide +kernel
theorem dX7_measure_76 : decode cX7_measure 76 = .ok (.iload 5, 2) := by decide +kernel
theorem dX7_measure_78 : decode cX7_measure 78 = .ok (.aload_n 0, 1) := by decide +kernel
theorem dX7_measure_79 : decode cX7_measure 79 = .ok (.getfield 25, 3) := by decide +kernel
theorem dX7_measure_82 : decode cX7_measure 82 = .ok (.iload_n 3, 1) := by decide +kernel
theorem dX7_measure_83 : decode cX7_measure 83 = .ok (.iaload, 1) := by decide +kernel
theorem dX7_measure_84 : decode cX7_measure 84 = .ok (.if_icmp .ge 8, 3) := by decide +kernel
theorem dX7_measure_87 : decode cX7_measure 87 = .ok (.iload 5, 2) := by decide +kernel
theorem dX7_measure_89 : decode cX7_measure 89 = .ok (.goto 9, 3) := by decide +kernel
theorem dX7_measure_92 : decode cX7_measure 92 = .ok (.aload_n 0, 1) := by decide +kernel
theorem dX7_measure_93 : decode cX7_measure 93 = .ok (.getfield 25, 3) := by decide +kernel
theorem dX7_measure_96 : decode cX7_measure 96 = .ok (.iload_n 3, 1) := by decide +kernel
theorem dX7_measure_97 : decode cX7_measure 97 = .ok (.iaload, 1) := by decide +kernel
theorem dX7_measure_98 : decode cX7_measure 98 = .ok (.iastore, 1) := by decide +kernel
theorem dX7_measure_99 : decode cX7_measure 99 = .ok (.iinc 4 1, 3) := by decide +kernel
theorem dX7_measure_102 : decode cX7_measure 102 = .ok (.goto (-52), 3) := by decide +kernel
theorem dX7_measure_105 : decode cX7_measure 105 = .ok (.iinc 3 1, 3) := by decide +kernel
theorem dX7_measure_108 : decode cX7_measure 108 = .ok (.goto (-67), 3) := by decide +kernel
theorem dX7_measure_111 : decode cX7_measure 111 = .ok (.iinc 2 1, 3) := by decide +kernel
theorem dX7_measure_114 : decode cX7_measure 114 = .ok (.goto (-81), 3) := by decide +kernel
theorem dX7_measure_117 : decode cX7_measure 117 = .ok (.return_, 1) := by decide +kernel
theorem dX7_moveNow_0 : decode cX7_moveNow 0 = .ok (.aload_n 0, 1) := by decide +kernel
theorem dX7_moveNow_1 : decode cX7_moveNow 1 = .ok (.iload_n 1, 1) := by decide +kernel
theorem dX7_moveNow_2 : decode cX7_moveNow 2 = .ok (.invokevirtual 109, 3) := by decide +kernel
theorem dX7_moveNow_5 : decode cX7_moveNow 5 = .ok (.iconst 0, 1) := by decide +kernel
theorem dX7_moveNow_6 : decode cX7_moveNow 6 = .ok (.istore_n 2, 1) := by decide +kernel
theorem dX7_moveNow_7 : decode cX7_moveNow 7 = .ok (.aload_n 0, 1) := by decide +kernel
theorem dX7_moveNow_8 : decode cX7_moveNow 8 = .ok (.getfield 7, 3) := by decide +kernel
theorem dX7_moveNow_11 : decode cX7_moveNow 11 = .ok (.iconst 1, 1) := by decide +kernel
theorem dX7_moveNow_12 : decode cX7_moveNow 12 = .ok (.iaload, 1) := by decide +kernel
theorem dX7_moveNow_13 : decode cX7_moveNow 13 = .ok (.iload_n 1, 1) := by decide +kernel
theorem dX7_moveNow_14 : decode cX7_moveNow 14 = .ok (.if_icmp .eq 51, 3) := by decide +kernel
theorem dX7_moveNow_17 : decode cX7_moveNow 17 = .ok (.aload_n 0, 1) := by decide +kernel
theorem dX7_moveNow_18 : decode cX7_moveNow 18 = .ok (.getfield 25, 3) := by decide +kernel
theorem dX7_moveNow_21 : decode cX7_moveNow 21 = .ok (.aload_n 0, 1) := by decide +kernel
theorem dX7_moveNow_22 : decode cX7_moveNow 22 = .ok (.getfield 7, 3) := by decide +kernel
theorem dX7_moveNow_25 : decode cX7_moveNow 25 = .ok (.iconst 1, 1) := by decide +kernel
theorem dX7_moveNow_26 : decode cX7_moveNow 26 = .ok (.iaload, 1) := by decide +kernel
theorem dX7_moveNow_27 : decode cX7_moveNow 27 = .ok (.iconst 0, 1) := by decide +kernel
theorem dX7_moveNow_28 : decode cX7_moveNow 28 = .ok (.invokestatic 103, 3) := by decide +kernel
theorem dX7_moveNow_31 : decode cX7_moveNow 31 = .ok (.iaload, 1) := by decide +kernel
theorem dX7_moveNow_32 : decode cX7_moveNow 32 = .ok (.aload_n 0, 1) := by decide +kernel
theorem dX7_moveNow_33 : decode cX7_moveNow 33 = .ok (.getfield 25, 3) := by decide +kernel
theorem dX7_moveNow_36 : decode cX7_moveNow 36 = .ok (.aload_n 0, 1) := by decide +kernel
theorem dX7_moveNow_37 : decode cX7_moveNow 37 = .ok (.getfield 7, 3) := by decide +kernel
theorem dX7_moveNow_40 : decode cX7_moveNow 40 = .ok (.iconst 1, 1) := by decide +kernel
theorem dX7_moveNow_41 : decode cX7_moveNow 41 = .ok (.iaload, 1) := by decide +kernel
theorem dX7_moveNow_42 : decode cX7_moveNow 42 = .ok (.iaload, 1) := by decide +kernel
theorem dX7_moveNow_43 : decode cX7_moveNow 43 = .ok (.if_icmp .ge 7, 3) := by decide +kernel
theorem dX7_moveNow_46 : decode cX7_moveNow 46 = .ok (.iconst 0, 1) := by decide +kernel
theorem dX7_moveNow_47 : decode cX7_moveNow 47 = .ok (.goto 4, 3) := by decide +kernel
theorem dX7_moveNow_50 : decode cX7_moveNow 50 = .ok (.iconst 1, 1) := by decide +kernel
theorem dX7_moveNow_51 : decode cX7_moveNow 51 = .ok (.istore_n 3, 1) := by decide +kernel
theorem dX7_moveNow_52 : decode cX7_moveNow 52 = .ok (.aload_n 0, 1) := by decide +kernel
theorem dX7_moveNow_53 : decode cX7_moveNow 53 = .ok (.iload_n 3, 1) := by decide +kernel
theorem dX7_moveNow_54 : decode cX7_moveNow 54 = .ok (.iconst 1, 1) := by decide +kernel
theorem dX7_moveNow_55 : decode cX7_moveNow 55 = .ok (.invokevirtual 106, 3) := by decide +kernel
theorem dX7_moveNow_58 : decode cX7_moveNow 58 = .ok (.pop, 1) := by decide +kernel
theorem dX7_moveNow_59 : decode cX7_moveNow 59 = .ok (.iinc 2 1, 3) := by decide +kernel
theorem dX7_moveNow_62 : decode cX7_moveNow 62 = .ok (.goto (-55), 3) := by decide +kernel
theorem dX7_moveNow_65 : decode cX7_moveNow 65 = .ok (.iload_n 2, 1) := by decide +kernel
theorem dX7_moveNow_66 : decode cX7_moveNow 66 = .ok (.ireturn, 1) := by decide +kernel
theorem dX7_move_0 : decode cX7_move 0 = .ok (.iload_n 1, 1) := by decide +kernel
theorem dX7_move_1 : decode cX7_move 1 = .ok (.iconst 0, 1) := by decide +kernel
theorem dX7_move_2 : decode cX7_move 2 = .ok (.bipush 15, 2) := by decide +kernel
theorem dX7_move_4 : decode cX7_move 4 = .ok (.invokestatic 28, 3) := by decide +kernel
theorem dX7_move_7 : decode cX7_move 7 = .ok (.ifCond .ne 6, 3) := by decide +kernel
theorem dX7_move_10 : decode cX7_move 10 = .ok (.bipush (-2), 2) := by decide +kernel
theorem dX7_move_12 : decode cX7_move 12 = .ok (.ireturn, 1) := by decide +kernel
theorem dX7_move_13 : decode cX7_move 13 = .ok (.aload_n 0, 1) := by decide +kernel
theorem dX7_move_14 : decode cX7_move 14 = .ok (.invokevirtual 44, 3) := by decide +kernel
theorem dX7_move_17 : decode cX7_move 17 = .ok (.aload_n 0, 1) := by decide +kernel
theorem dX7_move_18 : decode cX7_move 18 = .ok (.iload_n 1, 1) := by decide +kernel
theorem dX7_move_19 : decode cX7_move 19 = .ok (.invokevirtual 112, 3) := by decide +kernel
theorem dX7_move_22 : decode cX7_move 22 = .ok (.ireturn, 1) := by decide +kernel
theorem dX7_readOne_0 : decode cX7_readOne 0 = .ok (.aload_n 0, 1) := by decide +kernel
theorem dX7_readOne_1 : decode cX7_readOne 1 = .ok (.iconst 0, 1) := by decide +kernel
theorem dX7_readOne_2 : decode cX7_readOne 2 = .ok (.iconst 1, 1) := by decide +kernel
theorem dX7_readOne_3 : decode cX7_readOne 3 = .ok (.invokevirtual 106, 3) := by decide +kernel
theorem dX7_readOne_6 : decode cX7_readOne 6 = .ok (.ifCond .ne 5, 3) := by decide +kernel
theorem dX7_readOne_9 : decode cX7_readOne 9 = .ok (.iconst 0, 1) := by decide +kernel
theorem dX7_readOne_10 : decode cX7_readOne 10 = .ok (.ireturn, 1) := by decide +kernel
theorem dX7_readOne_11 : decode cX7_readOne 11 = .ok (.iconst 1, 1) := by decide +kernel
theorem dX7_readOne_12 : decode cX7_readOne 12 = .ok (.istore_n 1, 1) := by decide +kernel
theorem dX7_readOne_13 : decode cX7_readOne 13 = .ok (.iconst 1, 1) := by decide +kernel
theorem dX7_readOne_14 : decode cX7_readOne 14 = .ok (.istore_n 2, 1) := by decide +kernel
theorem dX7_readOne_15 : decode cX7_readOne 15 = .ok (.iload_n 2, 1) := by decide +kernel
theorem dX7_readOne_16 : decode cX7_readOne 16 = .ok (.bipush 8, 2) := by decide +kernel
theorem dX7_readOne_18 : decode cX7_readOne 18 = .ok (.if_icmp .ge 20, 3) := by decide +kernel
theorem dX7_readOne_21 : decode cX7_readOne 21 = .ok (.iload_n 1, 1) := by decide +kernel
theorem dX7_readOne_22 : decode cX7_readOne 22 = .ok (.aload_n 0, 1) := by decide +kernel
theorem dX7_readOne_23 : decode cX7_readOne 23 = .ok (.iconst 0, 1) := by decide +kernel
theorem dX7_readOne_24 : decode cX7_readOne 24 = .ok (.iconst 1, 1) := by decide +kernel
theorem dX7_readOne_25 : decode cX7_readOne 25 = .ok (.invokevirtual 106, 3) := by decide +kernel
theorem dX7_readOne_28 : decode cX7_readOne 28 = .ok (.iload_n 2, 1) := by decide +kernel
theorem dX7_readOne_29 : decode cX7_readOne 29 = .ok (.ishl, 1) := by decide +kernel
theorem dX7_readOne_30 : decode cX7_readOne 30 = .ok (.ior, 1) := by decide +kernel
theorem dX7_readOne_31 : decode cX7_readOne 31 = .ok (.istore_n 1, 1) := by decide +kernel
theorem dX7_readOne_32 : decode cX7_readOne 32 = .ok (.iinc 2 1, 3) := by decide +kernel
theorem dX7_readOne_35 : decode cX7_readOne 35 = .ok (.goto (-20), 3) := by decide +kernel
theorem dX7_readOne_38 : decode cX7_readOne 38 = .ok (.iload_n 1, 1) := by decide +kernel
theorem dX7_readOne_39 : decode cX7_readOne 39 = .ok (.ireturn, 1) := by decide +kernel
theorem dX7_identifyNow_0 : decode cX7_identifyNow 0 = .ok (.iconst 0, 1) := by decide +kernel
theorem dX7_identifyNow_1 : decode cX7_identifyNow 1 = .ok (.istore_n 1, 1) := by decide +kernel
theorem dX7_identifyNow_2 : decode cX7_identifyNow 2 = .ok (.iload_n 1, 1) := by decide +kernel
theorem dX7_identifyNow_3 : decode cX7_identifyNow 3 = .ok (.iconst 5, 1) := by decide +kernel
theorem dX7_identifyNow_4 : decode cX7_identifyNow 4 = .ok (.if_icmp .ge 16, 3) := by decide +kernel
theorem dX7_identifyNow_7 : decode cX7_identifyNow 7 = .ok (.aload_n 0, 1) := by decide +kernel
theorem dX7_identifyNow_8 : decode cX7_identifyNow 8 = .ok (.iconst 1, 1) := by decide +kernel
theorem dX7_identifyNow_9 : decode cX7_identifyNow 9 = .ok (.iconst 1, 1) := by decide +kernel
theorem dX7_identifyNow_10 : decode cX7_identifyNow 10 = .ok (.invokevirtual 106, 3) := by decide +kernel
theorem dX7_identifyNow_13 : decode cX7_identifyNow 13 = .ok (.pop, 1) := by decide +kernel
theorem dX7_identifyNow_14 : decode cX7_identifyNow 14 = .ok (.iinc 1 1, 3) := by decide +kernel
theorem dX7_identifyNow_17 : decode cX7_identifyNow 17 = .ok (.goto (-15), 3) := by decide +kernel
theorem dX7_identifyNow_20 : decode cX7_identifyNow 20 = .ok (.aload_n 0, 1) := by decide +kernel
theorem dX7_identifyNow_21 : decode cX7_identifyNow 21 = .ok (.iconst 4, 1) := by decide +kernel
theorem dX7_identifyNow_22 : decode cX7_identifyNow 22 = .ok (.invokevirtual 112, 3) := by decide +kernel
theorem dX7_identifyNow_25 : decode cX7_identifyNow 25 = .ok (.pop, 1) := by decide +kernel
theorem dX7_identifyNow_26 : decode cX7_identifyNow 26 = .ok (.aload_n 0, 1) := by decide +kernel
theorem dX7_identifyNow_27 : decode cX7_identifyNow 27 = .ok (.getfield 7, 3) := by decide +kernel
theorem dX7_identifyNow_30 : decode cX7_identifyNow 30 = .ok (.iconst 3, 1) := by decide +kernel
theorem dX7_identifyNow_31 : decode cX7_identifyNow 31 = .ok (.iconst 0, 1) := by decide +kernel
theorem dX7_identifyNow_32 : decode cX7_identifyNow 32 = .ok (.iastore, 1) := by decide +kernel
theorem dX7_identifyNow_33 : decode cX7_identifyNow 33 = .ok (.iconst 0, 1) := by decide +kernel
theorem dX7_identifyNow_34 : decode cX7_identifyNow 34 = .ok (.istore_n 1, 1) := by decide +kernel
theorem dX7_identifyNow_35 : decode cX7_identifyNow 35 = .ok (.iload_n 1, 1) := by decide +kernel
theorem dX7_identifyNow_36 : decode cX7_identifyNow 36 = .ok (.bipush 8, 2) := by decide +kernel
theorem dX7_identifyNow_38 : decode cX7_identifyNow 38 = .ok (.if_icmp .ge 18, 3) := by decide +kernel
theorem dX7_identifyNow_41 : decode cX7_identifyNow 41 = .ok (.aload_n 0, 1) := by decide +kernel
theorem dX7_identifyNow_42 : decode cX7_identifyNow 42 = .ok (.getfield 7, 3) := by decide +kernel
theorem dX7_identifyNow_45 : decode cX7_identifyNow 45 = .ok (.iconst 4, 1) := by decide +kernel
theorem dX7_identifyNow_46 : decode cX7_identifyNow 46 = .ok (.iload_n 1, 1) := by decide +kernel
theorem dX7_identifyNow_47 : decode cX7_identifyNow 47 = .ok (.iadd, 1) := by decide +kernel
theorem dX7_identifyNow_48 : decode cX7_identifyNow 48 = .ok (.iconst 0, 1) := by decide +kernel
theorem dX7_identifyNow_49 : decode cX7_identifyNow 49 = .ok (.iastore, 1) := by decide +kernel
theorem dX7_identifyNow_50 : decode cX7_identifyNow 50 = .ok (.iinc 1 1, 3) := by decide +kernel
theorem dX7_identifyNow_53 : decode cX7_identifyNow 53 = .ok (.goto (-18), 3) := by decide +kernel
theorem dX7_identifyNow_56 : decode cX7_identifyNow 56 = .ok (.iconst 1, 1) := by decide +kernel
theorem dX7_identifyNow_57 : decode cX7_identifyNow 57 = .ok (.istore_n 1, 1) := by decide +kernel
theorem dX7_identifyNow_58 : decode cX7_identifyNow 58 = .ok (.iload_n 1, 1) := by decide +kernel
theorem dX7_identifyNow_59 : decode cX7_identifyNow 59 = .ok (.ifCond .eq 69, 3) := by decide +kernel
theorem dX7_identifyNow_62 : decode cX7_identifyNow 62 = .ok (.aload_n 0, 1) := by decide +kernel
theorem dX7_identifyNow_63 : decode cX7_identifyNow 63 = .ok (.invokevirtual 115, 3) := by decide +kernel
theorem dX7_identifyNow_66 : decode cX7_identifyNow 66 = .ok (.istore_n 2, 1) := by decide +kernel
theorem dX7_identifyNow_67 : decode cX7_identifyNow 67 = .ok (.iload_n 2, 1) := by decide +kernel
theorem dX7_identifyNow_68 : decode cX7_identifyNow 68 = .ok (.sipush 255, 3) := by decide +kernel
theorem dX7_identifyNow_71 : decode cX7_identifyNow 71 = .ok (.if_icmp .eq 7, 3) := by decide +kernel
theorem dX7_identifyNow_74 : decode cX7_identifyNow 74 = .ok (.iconst 1, 1) := by decide +kernel
theorem dX7_identifyNow_75 : decode cX7_identifyNow 75 = .ok (.goto 4, 3) := by decide +kernel
theorem dX7_identifyNow_78 : decode cX7_identifyNow 78 = .ok (.iconst 0, 1) := by decide +kernel
theorem dX7_identifyNow_79 : decode cX7_identifyNow 79 = .ok (.istore_n 1, 1) := by decide +kernel
theorem dX7_identifyNow_80 : decode cX7_identifyNow 80 = .ok (.iload_n 1, 1) := by decide +kernel
theorem dX7_identifyNow_81 : decode cX7_identifyNow 81 = .ok (.ifCond .eq 44, 3) := by decide +kernel
theorem dX7_identifyNow_84 : decode cX7_identifyNow 84 = .ok (.aload_n 0, 1) := by decide +kernel
theorem dX7_identifyNow_85 : decode cX7_identifyNow 85 = .ok (.getfield 7, 3) := by decide +kernel
theorem dX7_identifyNow_88 : decode cX7_identifyNow 88 = .ok (.iconst 4, 1) := by decide +kernel
theorem dX7_identifyNow_89 : decode cX7_identifyNow 89 = .ok (.aload_n 0, 1) := by decide +kernel
theorem dX7_identifyNow_90 : decode cX7_identifyNow 90 = .ok (.getfield 7, 3) := by decide +kernel
theorem dX7_identifyNow_93 : decode cX7_identifyNow 93 = .ok (.iconst 3, 1) := by decide +kernel
theorem dX7_identifyNow_94 : decode cX7_identifyNow 94 = .ok (.iaload, 1) := by decide +kernel
theorem dX7_identifyNow_95 : decode cX7_identifyNow 95 = .ok (.iadd, 1) := by decide +kernel
theorem dX7_identifyNow_96 : decode cX7_identifyNow 96 = .ok (.iload_n 2, 1) := by decide +kernel
theorem dX7_identifyNow_97 : decode cX7_identifyNow 97 = .ok (.iastore, 1) := by decide +kernel
theorem dX7_identifyNow_98 : decode cX7_identifyNow 98 = .ok (.aload_n 0, 1) := by decide +kernel
theorem dX7_identifyNow_99 : decode cX7_identifyNow 99 = .ok (.getfield 7, 3) := by decide +kernel
theorem dX7_identifyNow_102 : decode cX7_identifyNow 102 = .ok (.iconst 3, 1) := by decide +kernel
theorem dX7_identifyNow_103 : decode cX7_identifyNow 103 = .ok (.dup2, 1) := by decide +kernel
theorem dX7_identifyNow_104 : decode cX7_identifyNow 104 = .ok (.iaload, 1) := by decide +kernel
theorem dX7_identifyNow_105 : decode cX7_identifyNow 105 = .ok (.iconst 1, 1) := by decide +kernel
theorem dX7_identifyNow_106 : decode cX7_identifyNow 106 = .ok (.iadd, 1) := by decide +kernel
theorem dX7_identifyNow_107 : decode cX7_identifyNow 107 = .ok (.iastore, 1) := by decide +kernel
theorem dX7_identifyNow_108 : decode cX7_identifyNow 108 = .ok (.aload_n 0, 1) := by decide +kernel
theorem dX7_identifyNow_109 : decode cX7_identifyNow 109 = .ok (.getfield 7, 3) := by decide +kernel
theorem dX7_identifyNow_112 : decode cX7_identifyNow 112 = .ok (.iconst 3, 1) := by decide +kernel
theorem dX7_identifyNow_113 : decode cX7_identifyNow 113 = .ok (.iaload, 1) := by decide +kernel
theorem dX7_identifyNow_114 : decode cX7_identifyNow 114 = .ok (.bipush 8, 2) := by decide +kernel
theorem dX7_identifyNow_116 : decode cX7_identifyNow 116 = .ok (.if_icmp .ge 7, 3) := by decide +kernel
theorem dX7_identifyNow_119 : decode cX7_identifyNow 119 = .ok (.iconst 1, 1) := by decide +kernel
theorem dX7_identifyNow_120 : decode cX7_identifyNow 120 = .ok (.goto 4, 3) := by decide +kernel
theorem dX7_identifyNow_123 : decode cX7_identifyNow 123 = .ok (.iconst 0, 1) := by decide +kernel
theorem dX7_identifyNow_124 : decode cX7_identifyNow 124 = .ok (.istore_n 1, 1) := by decide +kernel
theorem dX7_identifyNow_125 : decode cX7_identifyNow 125 = .ok (.goto (-67), 3) := by decide +kernel
theorem dX7_identifyNow_128 : decode cX7_identifyNow 128 = .ok (.aload_n 0, 1) := by decide +kernel
theorem dX7_identifyNow_129 : decode cX7_identifyNow 129 = .ok (.iconst 1, 1) := by decide +kernel
theorem dX7_identifyNow_130 : decode cX7_identifyNow 130 = .ok (.invokevirtual 112, 3) := by decide +kernel
theorem dX7_identifyNow_133 : decode cX7_identifyNow 133 = .ok (.pop, 1) := by decide +kernel
theorem dX7_identifyNow_134 : decode cX7_identifyNow 134 = .ok (.return_, 1) := by decide +kernel
theorem dX7_identify_0 : decode cX7_identify 0 = .ok (.aload_n 0, 1) := by decide +kernel
theorem dX7_identify_1 : decode cX7_identify 1 = .ok (.invokevirtual 44, 3) := by decide +kernel
theorem dX7_identify_4 : decode cX7_identify 4 = .ok (.aload_n 0, 1) := by decide +kernel
theorem dX7_identify_5 : decode cX7_identify 5 = .ok (.invokevirtual 118, 3) := by decide +kernel
theorem dX7_identify_8 : decode cX7_identify 8 = .ok (.aload_n 0, 1) := by decide +kernel
theorem dX7_identify_9 : decode cX7_identify 9 = .ok (.getfield 7, 3) := by decide +kernel
theorem dX7_identify_12 : decode cX7_identify 12 = .ok (.iconst 3, 1) := by decide +kernel
theorem dX7_identify_13 : decode cX7_identify 13 = .ok (.iaload, 1) := by decide +kernel
theorem dX7_identify_14 : decode cX7_identify 14 = .ok (.ireturn, 1) := by decide +kernel
theorem dX7_clockBits_0 : decode cX7_clockBits 0 = .ok (.iconst 0, 1) := by decide +kernel
theorem dX7_clockBits_1 : decode cX7_clockBits 1 = .ok (.istore 4, 2) := by decide +kernel
theorem dX7_clockBits_3 : decode cX7_clockBits 3 = .ok (.iconst 0, 1) := by decide +kernel
theorem dX7_clockBits_4 : decode cX7_clockBits 4 = .ok (.istore 5, 2) := by decide +kernel
theorem dX7_clockBits_6 : decode cX7_clockBits 6 = .ok (.iload 5, 2) := by decide +kernel
theorem dX7_clockBits_8 : decode cX7_clockBits 8 = .ok (.iload_n 2, 1) := by decide +kernel
theorem dX7_clockBits_9 : decode cX7_clockBits 9 = .ok (.if_icmp .ge 44, 3) := by decide +kernel
theorem dX7_clockBits_12 : decode cX7_clockBits 12 = .ok (.iload 5, 2) := by decide +kernel
theorem dX7_clockBits_14 : decode cX7_clockBits 14 = .ok (.iload_n 2, 1) := by decide +kernel
theorem dX7_clockBits_15 : decode cX7_clockBits 15 = .ok (.iconst 1, 1) := by decide +kernel
theorem dX7_clockBits_16 : decode cX7_clockBits 16 = .ok (.isub, 1) := by decide +kernel
theorem dX7_clockBits_17 : decode cX7_clockBits 17 = .ok (.if_icmp .ne 7, 3) := by decide +kernel
theorem dX7_clockBits_20 : decode cX7_clockBits 20 = .ok (.iload_n 3, 1) := by decide +kernel
theorem dX7_clockBits_21 : decode cX7_clockBits 21 = .ok (.goto 4, 3) := by decide +kernel
theorem dX7_clockBits_24 : decode cX7_clockBits 24 = .ok (.iconst 0, 1) := by decide +kernel
theorem dX7_clockBits_25 : decode cX7_clockBits 25 = .ok (.istore 6, 2) := by decide +kernel
theorem dX7_clockBits_27 : decode cX7_clockBits 27 = .ok (.iload 4, 2) := by decide +kernel
theorem dX7_clockBits_29 : decode cX7_clockBits 29 = .ok (.aload_n 0, 1) := by decide +kernel
theorem dX7_clockBits_30 : decode cX7_clockBits 30 = .ok (.iload 6, 2) := by decide +kernel
theorem dX7_clockBits_32 : decode cX7_clockBits 32 = .ok (.iload_n 1, 1) := by decide +kernel
theorem dX7_clockBits_33 : decode cX7_clockBits 33 = .ok (.iload 5, 2) := by decide +kernel
theorem dX7_clockBits_35 : decode cX7_clockBits 35 = .ok (.ishr, 1) := by decide +kernel
theorem dX7_clockBits_36 : decode cX7_clockBits 36 = .ok (.iconst 1, 1) := by decide +kernel
theorem dX7_clockBits_37 : decode cX7_clockBits 37 = .ok (.iand, 1) := by decide +kernel
theorem dX7_clockBits_38 : decode cX7_clockBits 38 = .ok (.invokevirtual 106, 3) := by decide +kernel
theorem dX7_clockBits_41 : decode cX7_clockBits 41 = .ok (.iload 5, 2) := by decide +kernel
theorem dX7_clockBits_43 : decode cX7_clockBits 43 = .ok (.ishl, 1) := by decide +kernel
theorem dX7_clockBits_44 : decode cX7_clockBits 44 = .ok (.ior, 1) := by decide +kernel
theorem dX7_clockBits_45 : decode cX7_clockBits 45 = .ok (.istore 4, 2) := by decide +kernel
theorem dX7_clockBits_47 : decode cX7_clockBits 47 = .ok (.iinc 5 1, 3) := by decide +kernel
theorem dX7_clockBits_50 : decode cX7_clockBits 50 = .ok (.goto (-44), 3) := by decide +kernel
theorem dX7_clockBits_53 : decode cX7_clockBits 53 = .ok (.iload 4, 2) := by decide +kernel
theorem dX7_clockBits_55 : decode cX7_clockBits 55 = .ok (.ireturn, 1) := by decide +kernel
theorem dX7_load_0 : decode cX7_load 0 = .ok (.aload_n 0, 1) := by decide +kernel
theorem dX7_load_1 : decode cX7_load 1 = .ok (.iload_n 1, 1) := by decide +kernel
theorem dX7_load_2 : decode cX7_load 2 = .ok (.invokevirtual 74, 3) := by decide +kernel
theorem dX7_load_5 : decode cX7_load 5 = .ok (.ifCond .ne 5, 3) := by decide +kernel
theorem dX7_load_8 : decode cX7_load 8 = .ok (.iconst (-1), 1) := by decide +kernel
theorem dX7_load_9 : decode cX7_load 9 = .ok (.ireturn, 1) := by decide +kernel
theorem dX7_load_10 : decode cX7_load 10 = .ok (.iload_n 2, 1) := by decide +kernel
theorem dX7_load_11 : decode cX7_load 11 = .ok (.iconst 0, 1) := by decide +kernel
theorem dX7_load_12 : decode cX7_load 12 = .ok (.bipush 63, 2) := by decide +kernel
theorem dX7_load_14 : decode cX7_load 14 = .ok (.invokestatic 28, 3) := by decide +kernel
theorem dX7_load_17 : decode cX7_load 17 = .ok (.ifCond .ne 6, 3) := by decide +kernel
theorem dX7_load_20 : decode cX7_load 20 = .ok (.bipush (-2), 2) := by decide +kernel
theorem dX7_load_22 : decode cX7_load 22 = .ok (.ireturn, 1) := by decide +kernel
theorem dX7_load_23 : decode cX7_load 23 = .ok (.aload_n 0, 1) := by decide +kernel
theorem dX7_load_24 : decode cX7_load 24 = .ok (.invokevirtual 44, 3) := by decide +kernel
theorem dX7_load_27 : decode cX7_load 27 = .ok (.aload_n 0, 1) := by decide +kernel
theorem dX7_load_28 : decode cX7_load 28 = .ok (.bipush 11, 2) := by decide +kernel
theorem dX7_load_30 : decode cX7_load 30 = .ok (.invokevirtual 112, 3) := by decide +kernel
theorem dX7_load_33 : decode cX7_load 33 = .ok (.pop, 1) := by decide +kernel
theorem dX7_load_34 : decode cX7_load 34 = .ok (.aload_n 0, 1) := by decide +kernel
theorem dX7_load_35 : decode cX7_load 35 = .ok (.getfield 7, 3) := by decide +kernel
theorem dX7_load_38 : decode cX7_load 38 = .ok (.iconst 0, 1) := by decide +kernel
theorem dX7_load_39 : decode cX7_load 39 = .ok (.iaload, 1) := by decide +kernel
theorem dX7_load_40 : decode cX7_load 40 = .ok (.iconst 1, 1) := by decide +kernel
theorem dX7_load_41 : decode cX7_load 41 = .ok (.isub, 1) := by decide +kernel
theorem dX7_load_42 : decode cX7_load 42 = .ok (.istore_n 3, 1) := by decide +kernel
theorem dX7_load_43 : decode cX7_load 43 = .ok (.iload_n 3, 1) := by decide +kernel
theorem dX7_load_44 : decode cX7_load 44 = .ok (.ifCond .lt 54, 3) := by decide +kernel
theorem dX7_load_47 : decode cX7_load 47 = .ok (.iload_n 3, 1) := by decide +kernel
theorem dX7_load_48 : decode cX7_load 48 = .ok (.iload_n 1, 1) := by decide +kernel
theorem dX7_load_49 : decode cX7_load 49 = .ok (.if_icmp .ne 7, 3) := by decide +kernel
theorem dX7_load_52 : decode cX7_load 52 = .ok (.iload_n 2, 1) := by decide +kernel
theorem dX7_load_53 : decode cX7_load 53 = .ok (.goto 5, 3) := by decide +kernel
theorem dX7_load_56 : decode cX7_load 56 = .ok (.bipush 63, 2) := by decide +kernel
theorem dX7_load_58 : decode cX7_load 58 = .ok (.istore 4, 2) := by decide +kernel
theorem dX7_load_60 : decode cX7_load 60 = .ok (.aload_n 0, 1) := by decide +kernel
theorem dX7_load_61 : decode cX7_load 61 = .ok (.iload 4, 2) := by decide +kernel
theorem dX7_load_63 : decode cX7_load 63 = .ok (.aload_n 0, 1) := by decide +kernel
theorem dX7_load_64 : decode cX7_load 64 = .ok (.iload_n 3, 1) := by decide +kernel
theorem dX7_load_65 : decode cX7_load 65 = .ok (.iconst 0, 1) := by decide +kernel
theorem dX7_load_66 : decode cX7_load 66 = .ok (.invokevirtual 47, 3) := by decide +kernel
theorem dX7_load_69 : decode cX7_load 69 = .ok (.invokestatic 62, 3) := by decide +kernel
theorem dX7_load_72 : decode cX7_load 72 = .ok (.iand, 1) := by decide +kernel
theorem dX7_load_73 : decode cX7_load 73 = .ok (.aload_n 0, 1) := by decide +kernel
theorem dX7_load_74 : decode cX7_load 74 = .ok (.iload_n 3, 1) := by decide +kernel
theorem dX7_load_75 : decode cX7_load 75 = .ok (.iconst 0, 1) := by decide +kernel
theorem dX7_load_76 : decode cX7_load 76 = .ok (.invokevirtual 47, 3) := by decide +kernel
theorem dX7_load_79 : decode cX7_load 79 = .ok (.iload_n 3, 1) := by decide +kernel
theorem dX7_load_80 : decode cX7_load 80 = .ok (.ifCond .ne 7, 3) := by decide +kernel
theorem dX7_load_83 : decode cX7_load 83 = .ok (.iconst 1, 1) := by decide +kernel
theorem dX7_load_84 : decode cX7_load 84 = .ok (.goto 4, 3) := by decide +kernel
theorem dX7_load_87 : decode cX7_load 87 = .ok (.iconst 0, 1) := by decide +kernel
theorem dX7_load_88 : decode cX7_load 88 = .ok (.invokevirtual 121, 3) := by decide +kernel
theorem dX7_load_91 : decode cX7_load 91 = .ok (.pop, 1) := by decide +kernel
theorem dX7_load_92 : decode cX7_load 92 = .ok (.iinc 3 (-1), 3) := by decide +kernel
theorem dX7_load_95 : decode cX7_load 95 = .ok (.goto (-52), 3) := by decide +kernel
theorem dX7_load_98 : decode cX7_load 98 = .ok (.aload_n 0, 1) := by decide +kernel
theorem dX7_load_99 : decode cX7_load 99 = .ok (.iconst 1, 1) := by decide +kernel
theorem dX7_load_100 : decode cX7_load 100 = .ok (.invokevirtual 112, 3) := by decide +kernel
theorem dX7_load_103 : decode cX7_load 103 = .ok (.pop, 1) := by decide +kernel
theorem dX7_load_104 : decode cX7_load 104 = .ok (.aload_n 0, 1) := by decide +kernel
theorem dX7_load_105 : decode cX7_load 105 = .ok (.iload_n 1, 1) := by decide +kernel
theorem dX7_load_106 : decode cX7_load 106 = .ok (.invokevirtual 91, 3) := by decide +kernel
theorem dX7_load_109 : decode cX7_load 109 = .ok (.ireturn, 1) := by decide +kernel
theorem dX7_exchangeNow_0 : decode cX7_exchangeNow 0 = .ok (.aload_n 0, 1) := by decide +kernel
theorem dX7_exchangeNow_1 : decode cX7_exchangeNow 1 = .ok (.iconst 4, 1) := by decide +kernel
theorem dX7_exchangeNow_2 : decode cX7_exchangeNow 2 = .ok (.invokevirtual 112, 3) := by decide +kernel
theorem dX7_exchangeNow_5 : decode cX7_exchangeNow 5 = .ok (.pop, 1) := by decide +kernel
theorem dX7_exchangeNow_6 : decode cX7_exchangeNow 6 = .ok (.iconst 0, 1) := by decide +kernel
theorem dX7_exchangeNow_7 : decode cX7_exchangeNow 7 = .ok (.istore_n 3, 1) := by decide +kernel
theorem dX7_exchangeNow_8 : decode cX7_exchangeNow 8 = .ok (.aload_n 0, 1) := by decide +kernel
theorem dX7_exchangeNow_9 : decode cX7_exchangeNow 9 = .ok (.getfield 7, 3) := by decide +kernel
theorem dX7_exchangeNow_12 : decode cX7_exchangeNow 12 = .ok (.iconst 0, 1) := by decide +kernel
theorem dX7_exchangeNow_13 : decode cX7_exchangeNow 13 = .ok (.iaload, 1) := by decide +kernel
theorem dX7_exchangeNow_14 : decode cX7_exchangeNow 14 = .ok (.iconst 1, 1) := by decide +kernel
theorem dX7_exchangeNow_15 : decode cX7_exchangeNow 15 = .ok (.isub, 1) := by decide +kernel
theorem dX7_exchangeNow_16 : decode cX7_exchangeNow 16 = .ok (.istore 4, 2) := by decide +kernel
theorem dX7_exchangeNow_18 : decode cX7_exchangeNow 18 = .ok (.iload 4, 2) := by decide +kernel
theorem dX7_exchangeNow_20 : decode cX7_exchangeNow 20 = .ok (.ifCond .lt 55, 3) := by decide +kernel
theorem dX7_exchangeNow_23 : decode cX7_exchangeNow 23 = .ok (.aload_n 0, 1) := by decide +kernel
theorem dX7_exchangeNow_24 : decode cX7_exchangeNow 24 = .ok (.iload 4, 2) := by decide +kernel
theorem dX7_exchangeNow_26 : decode cX7_exchangeNow 26 = .ok (.iload_n 1, 1) := by decide +kernel
theorem dX7_exchangeNow_27 : decode cX7_exchangeNow 27 = .ok (.if_icmp .ne 7, 3) := by decide +kernel
theorem dX7_exchangeNow_30 : decode cX7_exchangeNow 30 = .ok (.iload_n 2, 1) := by decide +kernel
theorem dX7_exchangeNow_31 : decode cX7_exchangeNow 31 = .ok (.goto 4, 3) := by decide +kernel
theorem dX7_exchangeNow_34 : decode cX7_exchangeNow 34 = .ok (.iconst 0, 1) := by decide +kernel
theorem dX7_exchangeNow_35 : decode cX7_exchangeNow 35 = .ok (.aload_n 0, 1) := by decide +kernel
theorem dX7_exchangeNow_36 : decode cX7_exchangeNow 36 = .ok (.iload 4, 2) := by decide +kernel
theorem dX7_exchangeNow_38 : decode cX7_exchangeNow 38 = .ok (.invokevirtual 91, 3) := by decide +kernel
theorem dX7_exchangeNow_41 : decode cX7_exchangeNow 41 = .ok (.iload 4, 2) := by decide +kernel
theorem dX7_exchangeNow_43 : decode cX7_exchangeNow 43 = .ok (.ifCond .ne 7, 3) := by decide +kernel
theorem dX7_exchangeNow_46 : decode cX7_exchangeNow 46 = .ok (.iconst 1, 1) := by decide +kernel
theorem dX7_exchangeNow_47 : decode cX7_exchangeNow 47 = .ok (.goto 4, 3) := by decide +kernel
theorem dX7_exchangeNow_50 : decode cX7_exchangeNow 50 = .ok (.iconst 0, 1) := by decide +kernel
theorem dX7_exchangeNow_51 : decode cX7_exchangeNow 51 = .ok (.invokevirtual 121, 3) := by decide +kernel
theorem dX7_exchangeNow_54 : decode cX7_exchangeNow 54 = .ok (.istore 5, 2) := by decide +kernel
theorem dX7_exchangeNow_56 : decode cX7_exchangeNow 56 = .ok (.iload 4, 2) := by decide +kernel
theorem dX7_exchangeNow_58 : decode cX7_exchangeNow 58 = .ok (.iload_n 1, 1) := by decide +kernel
theorem dX7_exchangeNow_59 : decode cX7_exchangeNow 59 = .ok (.if_icmp .ne 8, 3) := by decide +kernel
theorem dX7_exchangeNow_62 : decode cX7_exchangeNow 62 = .ok (.iload 5, 2) := by decide +kernel
theorem dX7_exchangeNow_64 : decode cX7_exchangeNow 64 = .ok (.goto 4, 3) := by decide +kernel
theorem dX7_exchangeNow_67 : decode cX7_exchangeNow 67 = .ok (.iload_n 3, 1) := by decide +kernel
theorem dX7_exchangeNow_68 : decode cX7_exchangeNow 68 = .ok (.istore_n 3, 1) := by decide +kernel
theorem dX7_exchangeNow_69 : decode cX7_exchangeNow 69 = .ok (.iinc 4 (-1), 3) := by decide +kernel
theorem dX7_exchangeNow_72 : decode cX7_exchangeNow 72 = .ok (.goto (-54), 3) := by decide +kernel
theorem dX7_exchangeNow_75 : decode cX7_exchangeNow 75 = .ok (.aload_n 0, 1) := by decide +kernel
theorem dX7_exchangeNow_76 : decode cX7_exchangeNow 76 = .ok (.iconst 1, 1) := by decide +kernel
theorem dX7_exchangeNow_77 : decode cX7_exchangeNow 77 = .ok (.invokevirtual 112, 3) := by decide +kernel
theorem dX7_exchangeNow_80 : decode cX7_exchangeNow 80 = .ok (.pop, 1) := by decide +kernel
theorem dX7_exchangeNow_81 : decode cX7_exchangeNow 81 = .ok (.iload_n 3, 1) := by decide +kernel
theorem dX7_exchangeNow_82 : decode cX7_exchangeNow 82 = .ok (.ireturn, 1) := by decide +kernel
theorem dX7_whyNotExchange_0 : decode cX7_whyNotExchange 0 = .ok (.aload_n 0, 1) := by decide +kernel
theorem dX7_whyNotExchange_1 : decode cX7_whyNotExchange 1 = .ok (.iload_n 1, 1) := by decide +kernel
theorem dX7_whyNotExchange_2 : decode cX7_whyNotExchange 2 = .ok (.invokevirtual 74, 3) := by decide +kernel
theorem dX7_whyNotExchange_5 : decode cX7_whyNotExchange 5 = .ok (.ifCond .ne 7, 3) := by decide +kernel
theorem dX7_whyNotExchange_8 : decode cX7_whyNotExchange 8 = .ok (.iconst (-1), 1) := by decide +kernel
theorem dX7_whyNotExchange_9 : decode cX7_whyNotExchange 9 = .ok (.goto 20, 3) := by decide +kernel
theorem dX7_whyNotExchange_12 : decode cX7_whyNotExchange 12 = .ok (.iload_n 2, 1) := by decide +kernel
theorem dX7_whyNotExchange_13 : decode cX7_whyNotExchange 13 = .ok (.iconst 0, 1) := by decide +kernel
theorem dX7_whyNotExchange_14 : decode cX7_whyNotExchange 14 = .ok (.sipush 255, 3) := by decide +kernel
theorem dX7_whyNotExchange_17 : decode cX7_whyNotExchange 17 = .ok (.invokestatic 28, 3) := by decide +kernel
theorem dX7_whyNotExchange_20 : decode cX7_whyNotExchange 20 = .ok (.ifCond .eq 7, 3) := by decide +kernel
theorem dX7_whyNotExchange_23 : decode cX7_whyNotExchange 23 = .ok (.iconst 0, 1) := by decide +kernel
theorem dX7_whyNotExchange_24 : decode cX7_whyNotExchange 24 = .ok (.goto 5, 3) := by decide +kernel
theorem dX7_whyNotExchange_27 : decode cX7_whyNotExchange 27 = .ok (.bipush (-2), 2) := by decide +kernel
theorem dX7_whyNotExchange_29 : decode cX7_whyNotExchange 29 = .ok (.ireturn, 1) := by decide +kernel
theorem dX7_exchange_0 : decode cX7_exchange 0 = .ok (.aload_n 0, 1) := by decide +kernel
theorem dX7_exchange_1 : decode cX7_exchange 1 = .ok (.iload_n 1, 1) := by decide +kernel
theorem dX7_exchange_2 : decode cX7_exchange 2 = .ok (.iload_n 2, 1) := by decide +kernel
theorem dX7_exchange_3 : decode cX7_exchange 3 = .ok (.invokevirtual 125, 3) := by decide +kernel
theorem dX7_exchange_6 : decode cX7_exchange 6 = .ok (.istore_n 3, 1) := by decide +kernel
theorem dX7_exchange_7 : decode cX7_exchange 7 = .ok (.iload_n 3, 1) := by decide +kernel
theorem dX7_exchange_8 : decode cX7_exchange 8 = .ok (.ifCond .ge 5, 3) := by decide +kernel
theorem dX7_exchange_11 : decode cX7_exchange 11 = .ok (.iload_n 3, 1) := by decide +kernel
theorem dX7_exchange_12 : decode cX7_exchange 12 = .ok (.ireturn, 1) := by decide +kernel
theorem dX7_exchange_13 : decode cX7_exchange 13 = .ok (.aload_n 0, 1) := by decide +kernel
theorem dX7_exchange_14 : decode cX7_exchange 14 = .ok (.invokevirtual 44, 3) := by decide +kernel
theorem dX7_exchange_17 : decode cX7_exchange 17 = .ok (.aload_n 0, 1) := by decide +kernel
theorem dX7_exchange_18 : decode cX7_exchange 18 = .ok (.iload_n 1, 1) := by decide +kernel
theorem dX7_exchange_19 : decode cX7_exchange 19 = .ok (.iload_n 2, 1) := by decide +kernel
theorem dX7_exchange_20 : decode cX7_exchange 20 = .ok (.invokevirtual 128, 3) := by decide +kernel
theorem dX7_exchange_23 : decode cX7_exchange 23 = .ok (.ireturn, 1) := by decide +kernel
theorem dX7_append_0 : decode cX7_append 0 = .ok (.iload_n 1, 1) := by decide +kernel
theorem dX7_append_1 : decode cX7_append 1 = .ok (.bipush 32, 2) := by decide +kernel
theorem dX7_append_3 : decode cX7_append 3 = .ok (.bipush 126, 2) := by decide +kernel
theorem dX7_append_5 : decode cX7_append 5 = .ok (.invokestatic 28, 3) := by decide +kernel
theorem dX7_append_8 : decode cX7_append 8 = .ok (.ifCond .ne 6, 3) := by decide +kernel
theorem dX7_append_11 : decode cX7_append 11 = .ok (.bipush (-2), 2) := by decide +kernel
theorem dX7_append_13 : decode cX7_append 13 = .ok (.ireturn, 1) := by decide +kernel
theorem dX7_append_14 : decode cX7_append 14 = .ok (.aload_n 0, 1) := by decide +kernel
theorem dX7_append_15 : decode cX7_append 15 = .ok (.getfield 131, 3) := by decide +kernel
theorem dX7_append_18 : decode cX7_append 18 = .ok (.bipush 80, 2) := by decide +kernel
theorem dX7_append_20 : decode cX7_append 20 = .ok (.if_icmp .ne 6, 3) := by decide +kernel
theorem dX7_append_23 : decode cX7_append 23 = .ok (.bipush (-3), 2) := by decide +kernel
theorem dX7_append_25 : decode cX7_append 25 = .ok (.ireturn, 1) := by decide +kernel
theorem dX7_append_26 : decode cX7_append 26 = .ok (.aload_n 0, 1) := by decide +kernel
theorem dX7_append_27 : decode cX7_append 27 = .ok (.getfield 22, 3) := by decide +kernel
theorem dX7_append_30 : decode cX7_append 30 = .ok (.aload_n 0, 1) := by decide +kernel
theorem dX7_append_31 : decode cX7_append 31 = .ok (.getfield 131, 3) := by decide +kernel
theorem dX7_append_34 : decode cX7_append 34 = .ok (.iload_n 1, 1) := by decide +kernel
theorem dX7_append_35 : decode cX7_append 35 = .ok (.iastore, 1) := by decide +kernel
theorem dX7_append_36 : decode cX7_append 36 = .ok (.aload_n 0, 1) := by decide +kernel
theorem dX7_append_37 : decode cX7_append 37 = .ok (.dup, 1) := by decide +kernel
theorem dX7_append_38 : decode cX7_append 38 = .ok (.getfield 131, 3) := by decide +kernel
theorem dX7_append_41 : decode cX7_append 41 = .ok (.iconst 1, 1) := by decide +kernel
theorem dX7_append_42 : decode cX7_append 42 = .ok (.iadd, 1) := by decide +kernel
theorem dX7_append_43 : decode cX7_append 43 = .ok (.putfield 131, 3) := by decide +kernel
theorem dX7_append_46 : decode cX7_append 46 = .ok (.aload_n 0, 1) := by decide +kernel
theorem dX7_append_47 : decode cX7_append 47 = .ok (.getfield 131, 3) := by decide +kernel
theorem dX7_append_50 : decode cX7_append 50 = .ok (.ireturn, 1) := by decide +kernel
theorem dX7_clearText_0 : decode cX7_clearText 0 = .ok (.aload_n 0, 1) := by decide +kernel
theorem dX7_clearText_1 : decode cX7_clearText 1 = .ok (.getfield 131, 3) := by decide +kernel
theorem dX7_clearText_4 : decode cX7_clearText 4 = .ok (.istore_n 1, 1) := by decide +kernel
theorem dX7_clearText_5 : decode cX7_clearText 5 = .ok (.aload_n 0, 1) := by decide +kernel
theorem dX7_clearText_6 : decode cX7_clearText 6 = .ok (.iconst 0, 1) := by decide +kernel
theorem dX7_clearText_7 : decode cX7_clearText 7 = .ok (.putfield 131, 3) := by decide +kernel
theorem dX7_clearText_10 : decode cX7_clearText 10 = .ok (.iload_n 1, 1) := by decide +kernel
theorem dX7_clearText_11 : decode cX7_clearText 11 = .ok (.ireturn, 1) := by decide +kernel
theorem dX7_digit_0 : decode cX7_digit 0 = .ok (.iload_n 0, 1) := by decide +kernel
theorem dX7_digit_1 : decode cX7_digit 1 = .ok (.bipush 48, 2) := by decide +kernel
theorem dX7_digit_3 : decode cX7_digit 3 = .ok (.bipush 57, 2) := by decide +kernel
theorem dX7_digit_5 : decode cX7_digit 5 = .ok (.invokestatic 28, 3) := by decide +kernel
theorem dX7_digit_8 : decode cX7_digit 8 = .ok (.ifCond .eq 10, 3) := by decide +kernel
theorem dX7_digit_11 : decode cX7_digit 11 = .ok (.iload_n 0, 1) := by decide +kernel
theorem dX7_digit_12 : decode cX7_digit 12 = .ok (.bipush 48, 2) := by decide +kernel
theorem dX7_digit_14 : decode cX7_digit 14 = .ok (.isub, 1) := by decide +kernel
theorem dX7_digit_15 : decode cX7_digit 15 = .ok (.goto 26, 3) := by decide +kernel
theorem dX7_digit_18 : decode cX7_digit 18 = .ok (.iload_n 0, 1) := by decide +kernel
theorem dX7_digit_19 : decode cX7_digit 19 = .ok (.bipush 97, 2) := by decide +kernel
theorem dX7_digit_21 : decode cX7_digit 21 = .ok (.bipush 102, 2) := by decide +kernel
theorem dX7_digit_23 : decode cX7_digit 23 = .ok (.invokestatic 28, 3) := by decide +kernel
theorem dX7_digit_26 : decode cX7_digit 26 = .ok (.ifCond .eq 13, 3) := by decide +kernel
theorem dX7_digit_29 : decode cX7_digit 29 = .ok (.iload_n 0, 1) := by decide +kernel
theorem dX7_digit_30 : decode cX7_digit 30 = .ok (.bipush 97, 2) := by decide +kernel
theorem dX7_digit_32 : decode cX7_digit 32 = .ok (.isub, 1) := by decide +kernel
theorem dX7_digit_33 : decode cX7_digit 33 = .ok (.bipush 10, 2) := by decide +kernel
theorem dX7_digit_35 : decode cX7_digit 35 = .ok (.iadd, 1) := by decide +kernel
theorem dX7_digit_36 : decode cX7_digit 36 = .ok (.goto 5, 3) := by decide +kernel
theorem dX7_digit_39 : decode cX7_digit 39 = .ok (.bipush (-4), 2) := by decide +kernel
theorem dX7_digit_41 : decode cX7_digit 41 = .ok (.ireturn, 1) := by decide +kernel
theorem dX7_fault_0 : decode cX7_fault 0 = .ok (.iconst 0, 1) := by decide +kernel
theorem dX7_fault_1 : decode cX7_fault 1 = .ok (.istore_n 1, 1) := by decide +kernel
theorem dX7_fault_2 : decode cX7_fault 2 = .ok (.iconst 0, 1) := by decide +kernel
theorem dX7_fault_3 : decode cX7_fault 3 = .ok (.istore_n 2, 1) := by decide +kernel
theorem dX7_fault_4 : decode cX7_fault 4 = .ok (.iload_n 2, 1) := by decide +kernel
theorem dX7_fault_5 : decode cX7_fault 5 = .ok (.aload_n 0, 1) := by decide +kernel
theorem dX7_fault_6 : decode cX7_fault 6 = .ok (.getfield 131, 3) := by decide +kernel
theorem dX7_fault_9 : decode cX7_fault 9 = .ok (.if_icmp .ge 98, 3) := by decide +kernel
theorem dX7_fault_12 : decode cX7_fault 12 = .ok (.aload_n 0, 1) := by decide +kernel
theorem dX7_fault_13 : decode cX7_fault 13 = .ok (.getfield 22, 3) := by decide +kernel
theorem dX7_fault_16 : decode cX7_fault 16 = .ok (.iload_n 2, 1) := by decide +kernel
theorem dX7_fault_17 : decode cX7_fault 17 = .ok (.iaload, 1) := by decide +kernel
theorem dX7_fault_18 : decode cX7_fault 18 = .ok (.istore_n 3, 1) := by decide +kernel
theorem dX7_fault_19 : decode cX7_fault 19 = .ok (.iload_n 3, 1) := by decide +kernel
theorem dX7_fault_20 : decode cX7_fault 20 = .ok (.bipush 48, 2) := by decide +kernel
theorem dX7_fault_22 : decode cX7_fault 22 = .ok (.if_icmp .eq 33, 3) := by decide +kernel
theorem dX7_fault_25 : decode cX7_fault 25 = .ok (.iload_n 3, 1) := by decide +kernel
theorem dX7_fault_26 : decode cX7_fault 26 = .ok (.bipush 49, 2) := by decide +kernel
theorem dX7_fault_28 : decode cX7_fault 28 = .ok (.if_icmp .eq 27, 3) := by decide +kernel
theorem dX7_fault_31 : decode cX7_fault 31 = .ok (.iload_n 3, 1) := by decide +kernel
theorem dX7_fault_32 : decode cX7_fault 32 = .ok (.bipush 97, 2) := by decide +kernel
theorem dX7_fault_34 : decode cX7_fault 34 = .ok (.if_icmp .eq 21, 3) := by decide +kernel
theorem dX7_fault_37 : decode cX7_fault 37 = .ok (.iload_n 3, 1) := by decide +kernel
theorem dX7_fault_38 : decode cX7_fault 38 = .ok (.bipush 98, 2) := by decide +kernel
theorem dX7_fault_40 : decode cX7_fault 40 = .ok (.if_icmp .eq 15, 3) := by decide +kernel
theorem dX7_fault_43 : decode cX7_fault 43 = .ok (.iload_n 3, 1) := by decide +kernel
theorem dX7_fault_44 : decode cX7_fault 44 = .ok (.bipush 63, 2) := by decide +kernel
theorem dX7_fault_46 : decode cX7_fault 46 = .ok (.if_icmp .eq 9, 3) := by decide +kernel
theorem dX7_fault_49 : decode cX7_fault 49 = .ok (.iload_n 3, 1) := by decide +kernel
theorem dX7_fault_50 : decode cX7_fault 50 = .ok (.bipush 64, 2) := by decide +kernel
theorem dX7_fault_52 : decode cX7_fault 52 = .ok (.if_icmp .ne 7, 3) := by decide +kernel
theorem dX7_fault_55 : decode cX7_fault 55 = .ok (.iconst 1, 1) := by decide +kernel
theorem dX7_fault_56 : decode cX7_fault 56 = .ok (.goto 4, 3) := by decide +kernel
theorem dX7_fault_59 : decode cX7_fault 59 = .ok (.iconst 0, 1) := by decide +kernel
theorem dX7_fault_60 : decode cX7_fault 60 = .ok (.istore 4, 2) := by decide +kernel
theorem dX7_fault_62 : decode cX7_fault 62 = .ok (.iload_n 1, 1) := by decide +kernel
theorem dX7_fault_63 : decode cX7_fault 63 = .ok (.ifCond .eq 15, 3) := by decide +kernel
theorem dX7_fault_66 : decode cX7_fault 66 = .ok (.iload_n 3, 1) := by decide +kernel
theorem dX7_fault_67 : decode cX7_fault 67 = .ok (.invokestatic 134, 3) := by decide +kernel
theorem dX7_fault_70 : decode cX7_fault 70 = .ok (.bipush (-4), 2) := by decide +kernel
theorem dX7_fault_72 : decode cX7_fault 72 = .ok (.if_icmp .ne 13, 3) := by decide +kernel
theorem dX7_fault_75 : decode cX7_fault 75 = .ok (.goto 8, 3) := by decide +kernel
theorem dX7_fault_78 : decode cX7_fault 78 = .ok (.iload 4, 2) := by decide +kernel
theorem dX7_fault_80 : decode cX7_fault 80 = .ok (.ifCond .ne 5, 3) := by decide +kernel
theorem dX7_fault_83 : decode cX7_fault 83 = .ok (.iload_n 2, 1) := by decide +kernel
theorem dX7_fault_84 : decode cX7_fault 84 = .ok (.ireturn, 1) := by decide +kernel
theorem dX7_fault_85 : decode cX7_fault 85 = .ok (.iload_n 1, 1) := by decide +kernel
theorem dX7_fault_86 : decode cX7_fault 86 = .ok (.ifCond .ne 13, 3) := by decide +kernel
theorem dX7_fault_89 : decode cX7_fault 89 = .ok (.iload_n 3, 1) := by decide +kernel
theorem dX7_fault_90 : decode cX7_fault 90 = .ok (.bipush 64, 2) := by decide +kernel
theorem dX7_fault_92 : decode cX7_fault 92 = .ok (.if_icmp .ne 7, 3) := by decide +kernel
theorem dX7_fault_95 : decode cX7_fault 95 = .ok (.iconst 1, 1) := by decide +kernel
theorem dX7_fault_96 : decode cX7_fault 96 = .ok (.goto 4, 3) := by decide +kernel
theorem dX7_fault_99 : decode cX7_fault 99 = .ok (.iconst 0, 1) := by decide +kernel
theorem dX7_fault_100 : decode cX7_fault 100 = .ok (.istore_n 1, 1) := by decide +kernel
theorem dX7_fault_101 : decode cX7_fault 101 = .ok (.iinc 2 1, 3) := by decide +kernel
theorem dX7_fault_104 : decode cX7_fault 104 = .ok (.goto (-100), 3) := by decide +kernel
theorem dX7_fault_107 : decode cX7_fault 107 = .ok (.iload_n 1, 1) := by decide +kernel
theorem dX7_fault_108 : decode cX7_fault 108 = .ok (.ifCond .ne 10, 3) := by decide +kernel
theorem dX7_fault_111 : decode cX7_fault 111 = .ok (.aload_n 0, 1) := by decide +kernel
theorem dX7_fault_112 : decode cX7_fault 112 = .ok (.getfield 131, 3) := by decide +kernel
theorem dX7_fault_115 : decode cX7_fault 115 = .ok (.ifCond .ne 10, 3) := by decide +kernel
theorem dX7_fault_118 : decode cX7_fault 118 = .ok (.aload_n 0, 1) := by decide +kernel
theorem dX7_fault_119 : decode cX7_fault 119 = .ok (.getfield 131, 3) := by decide +kernel
theorem dX7_fault_122 : decode cX7_fault 122 = .ok (.goto 5, 3) := by decide +kernel
theorem dX7_fault_125 : decode cX7_fault 125 = .ok (.bipush (-4), 2) := by decide +kernel
theorem dX7_fault_127 : decode cX7_fault 127 = .ok (.ireturn, 1) := by decide +kernel
theorem dX7_run_0 : decode cX7_run 0 = .ok (.aload_n 0, 1) := by decide +kernel
theorem dX7_run_1 : decode cX7_run 1 = .ok (.invokevirtual 137, 3) := by decide +kernel
theorem dX7_run_4 : decode cX7_run 4 = .ok (.istore_n 1, 1) := by decide +kernel
theorem dX7_run_5 : decode cX7_run 5 = .ok (.iload_n 1, 1) := by decide +kernel
theorem dX7_run_6 : decode cX7_run 6 = .ok (.bipush (-4), 2) := by decide +kernel
theorem dX7_run_8 : decode cX7_run 8 = .ok (.if_icmp .eq 8, 3) := by decide +kernel
theorem dX7_run_11 : decode cX7_run 11 = .ok (.bipush (-100), 2) := by decide +kernel
theorem dX7_run_13 : decode cX7_run 13 = .ok (.iload_n 1, 1) := by decide +kernel
theorem dX7_run_14 : decode cX7_run 14 = .ok (.isub, 1) := by decide +kernel
theorem dX7_run_15 : decode cX7_run 15 = .ok (.ireturn, 1) := by decide +kernel
theorem dX7_run_16 : decode cX7_run 16 = .ok (.aload_n 0, 1) := by decide +kernel
theorem dX7_run_17 : decode cX7_run 17 = .ok (.invokevirtual 44, 3) := by decide +kernel
theorem dX7_run_20 : decode cX7_run 20 = .ok (.iconst 0, 1) := by decide +kernel
theorem dX7_run_21 : decode cX7_run 21 = .ok (.istore_n 2, 1) := by decide +kernel
theorem dX7_run_22 : decode cX7_run 22 = .ok (.iconst 0, 1) := by decide +kernel
theorem dX7_run_23 : decode cX7_run 23 = .ok (.istore_n 3, 1) := by decide +kernel
theorem dX7_run_24 : decode cX7_run 24 = .ok (.iconst 0, 1) := by decide +kernel
theorem dX7_run_25 : decode cX7_run 25 = .ok (.istore 4, 2) := by decide +kernel
theorem dX7_run_27 : decode cX7_run 27 = .ok (.iload 4, 2) := by decide +kernel
theorem dX7_run_29 : decode cX7_run 29 = .ok (.aload_n 0, 1) := by decide +kernel
theorem dX7_run_30 : decode cX7_run 30 = .ok (.getfield 131, 3) := by decide +kernel
theorem dX7_run_33 : decode cX7_run 33 = .ok (.if_icmp .ge 125, 3) := by decide +kernel
theorem dX7_run_36 : decode cX7_run 36 = .ok (.aload_n 0, 1) := by decide +kernel
theorem dX7_run_37 : decode cX7_run 37 = .ok (.getfield 22, 3) := by decide +kernel
theorem dX7_run_40 : decode cX7_run 40 = .ok (.iload 4, 2) := by decide +kernel
theorem dX7_run_42 : decode cX7_run 42 = .ok (.iaload, 1) := by decide +kernel
theorem dX7_run_43 : decode cX7_run 43 = .ok (.istore 5, 2) := by decide +kernel
theorem dX7_run_45 : decode cX7_run 45 = .ok (.iload 5, 2) := by decide +kernel
theorem dX7_run_47 : decode cX7_run 47 = .ok (.bipush 64, 2) := by decide +kernel
theorem dX7_run_49 : decode cX7_run 49 = .ok (.if_icmp .ne 24, 3) := by decide +kernel
theorem dX7_run_52 : decode cX7_run 52 = .ok (.iinc 4 1, 3) := by decide +kernel
theorem dX7_run_55 : decode cX7_run 55 = .ok (.aload_n 0, 1) := by decide +kernel
theorem dX7_run_56 : decode cX7_run 56 = .ok (.aload_n 0, 1) := by decide +kernel
theorem dX7_run_57 : decode cX7_run 57 = .ok (.getfield 22, 3) := by decide +kernel
theorem dX7_run_60 : decode cX7_run 60 = .ok (.iload 4, 2) := by decide +kernel
theorem dX7_run_62 : decode cX7_run 62 = .ok (.iaload, 1) := by decide +kernel
theorem dX7_run_63 : decode cX7_run 63 = .ok (.invokestatic 134, 3) := by decide +kernel
theorem dX7_run_66 : decode cX7_run 66 = .ok (.invokevirtual 112, 3) := by decide +kernel
theorem dX7_run_69 : decode cX7_run 69 = .ok (.pop, 1) := by decide +kernel
theorem dX7_run_70 : decode cX7_run 70 = .ok (.goto 82, 3) := by decide +kernel
theorem dX7_run_73 : decode cX7_run 73 = .ok (.iload 5, 2) := by decide +kernel
theorem dX7_run_75 : decode cX7_run 75 = .ok (.bipush 97, 2) := by decide +kernel
theorem dX7_run_77 : decode cX7_run 77 = .ok (.if_icmp .eq 10, 3) := by decide +kernel
theorem dX7_run_80 : decode cX7_run 80 = .ok (.iload 5, 2) := by decide +kernel
theorem dX7_run_82 : decode cX7_run 82 = .ok (.bipush 98, 2) := by decide +kernel
theorem dX7_run_84 : decode cX7_run 84 = .ok (.if_icmp .ne 7, 3) := by decide +kernel
theorem dX7_run_87 : decode cX7_run 87 = .ok (.iconst 1, 1) := by decide +kernel
theorem dX7_run_88 : decode cX7_run 88 = .ok (.goto 4, 3) := by decide +kernel
theorem dX7_run_91 : decode cX7_run 91 = .ok (.iconst 0, 1) := by decide +kernel
theorem dX7_run_92 : decode cX7_run 92 = .ok (.istore 6, 2) := by decide +kernel
theorem dX7_run_94 : decode cX7_run 94 = .ok (.aload_n 0, 1) := by decide +kernel
theorem dX7_run_95 : decode cX7_run 95 = .ok (.iload 6, 2) := by decide +kernel
theorem dX7_run_97 : decode cX7_run 97 = .ok (.ifCond .eq 7, 3) := by decide +kernel
theorem dX7_run_100 : decode cX7_run 100 = .ok (.iconst 1, 1) := by decide +kernel
theorem dX7_run_101 : decode cX7_run 101 = .ok (.goto 4, 3) := by decide +kernel
theorem dX7_run_104 : decode cX7_run 104 = .ok (.iconst 0, 1) := by decide +kernel
theorem dX7_run_105 : decode cX7_run 105 = .ok (.iload 5, 2) := by decide +kernel
theorem dX7_run_107 : decode cX7_run 107 = .ok (.bipush 48, 2) := by decide +kernel
theorem dX7_run_109 : decode cX7_run 109 = .ok (.if_icmp .eq 10, 3) := by decide +kernel
theorem dX7_run_112 : decode cX7_run 112 = .ok (.iload 5, 2) := by decide +kernel
theorem dX7_run_114 : decode cX7_run 114 = .ok (.bipush 97, 2) := by decide +kernel
theorem dX7_run_116 : decode cX7_run 116 = .ok (.if_icmp .ne 7, 3) := by decide +kernel
theorem dX7_run_119 : decode cX7_run 119 = .ok (.iconst 0, 1) := by decide +kernel
theorem dX7_run_120 : decode cX7_run 120 = .ok (.goto 4, 3) := by decide +kernel
theorem dX7_run_123 : decode cX7_run 123 = .ok (.iconst 1, 1) := by decide +kernel
theorem dX7_run_124 : decode cX7_run 124 = .ok (.invokevirtual 106, 3) := by decide +kernel
theorem dX7_run_127 : decode cX7_run 127 = .ok (.istore 7, 2) := by decide +kernel
theorem dX7_run_129 : decode cX7_run 129 = .ok (.iload 5, 2) := by decide +kernel
theorem dX7_run_131 : decode cX7_run 131 = .ok (.bipush 63, 2) := by decide +kernel
theorem dX7_run_133 : decode cX7_run 133 = .ok (.if_icmp .ne 19, 3) := by decide +kernel
theorem dX7_run_136 : decode cX7_run 136 = .ok (.iload_n 2, 1) := by decide +kernel
theorem dX7_run_137 : decode cX7_run 137 = .ok (.bipush 30, 2) := by decide +kernel
theorem dX7_run_139 : decode cX7_run 139 = .ok (.if_icmp .ge 13, 3) := by decide +kernel
theorem dX7_run_142 : decode cX7_run 142 = .ok (.iload_n 3, 1) := by decide +kernel
theorem dX7_run_143 : decode cX7_run 143 = .ok (.iload 7, 2) := by decide +kernel
theorem dX7_run_145 : decode cX7_run 145 = .ok (.iload_n 2, 1) := by decide +kernel
theorem dX7_run_146 : decode cX7_run 146 = .ok (.ishl, 1) := by decide +kernel
theorem dX7_run_147 : decode cX7_run 147 = .ok (.ior, 1) := by decide +kernel
theorem dX7_run_148 : decode cX7_run 148 = .ok (.istore_n 3, 1) := by decide +kernel
theorem dX7_run_149 : decode cX7_run 149 = .ok (.iinc 2 1, 3) := by decide +kernel
theorem dX7_run_152 : decode cX7_run 152 = .ok (.iinc 4 1, 3) := by decide +kernel
theorem dX7_run_155 : decode cX7_run 155 = .ok (.goto (-128), 3) := by decide +kernel
theorem dX7_run_158 : decode cX7_run 158 = .ok (.iload_n 3, 1) := by decide +kernel
theorem dX7_run_159 : decode cX7_run 159 = .ok (.ireturn, 1) := by decide +kernel
theorem dX7_chip_0 : decode cX7_chip 0 = .ok (.aload_n 0, 1) := by decide +kernel
theorem dX7_chip_1 : decode cX7_chip 1 = .ok (.iload_n 1, 1) := by decide +kernel
theorem dX7_chip_2 : decode cX7_chip 2 = .ok (.invokevirtual 74, 3) := by decide +kernel
theorem dX7_chip_5 : decode cX7_chip 5 = .ok (.ifCond .ne 5, 3) := by decide +kernel
theorem dX7_chip_8 : decode cX7_chip 8 = .ok (.iconst (-1), 1) := by decide +kernel
theorem dX7_chip_9 : decode cX7_chip 9 = .ok (.ireturn, 1) := by decide +kernel
theorem dX7_chip_10 : decode cX7_chip 10 = .ok (.iload_n 2, 1) := by decide +kernel
theorem dX7_chip_11 : decode cX7_chip 11 = .ok (.iconst 0, 1) := by decide +kernel
theorem dX7_chip_12 : decode cX7_chip 12 = .ok (.bipush 8, 2) := by decide +kernel
theorem dX7_chip_14 : decode cX7_chip 14 = .ok (.invokestatic 28, 3) := by decide +kernel
theorem dX7_chip_17 : decode cX7_chip 17 = .ok (.ifCond .eq 12, 3) := by decide +kernel
theorem dX7_chip_20 : decode cX7_chip 20 = .ok (.aload_n 0, 1) := by decide +kernel
theorem dX7_chip_21 : decode cX7_chip 21 = .ok (.iload_n 1, 1) := by decide +kernel
theorem dX7_chip_22 : decode cX7_chip 22 = .ok (.iload_n 2, 1) := by decide +kernel
theorem dX7_chip_23 : decode cX7_chip 23 = .ok (.invokevirtual 47, 3) := by decide +kernel
theorem dX7_chip_26 : decode cX7_chip 26 = .ok (.goto 19, 3) := by decide +kernel
theorem dX7_chip_29 : decode cX7_chip 29 = .ok (.iload_n 2, 1) := by decide +kernel
theorem dX7_chip_30 : decode cX7_chip 30 = .ok (.bipush 9, 2) := by decide +kernel
theorem dX7_chip_32 : decode cX7_chip 32 = .ok (.if_icmp .ne 11, 3) := by decide +kernel
theorem dX7_chip_35 : decode cX7_chip 35 = .ok (.aload_n 0, 1) := by decide +kernel
theorem dX7_chip_36 : decode cX7_chip 36 = .ok (.iload_n 1, 1) := by decide +kernel
theorem dX7_chip_37 : decode cX7_chip 37 = .ok (.invokevirtual 91, 3) := by decide +kernel
theorem dX7_chip_40 : decode cX7_chip 40 = .ok (.goto 5, 3) := by decide +kernel
theorem dX7_chip_43 : decode cX7_chip 43 = .ok (.bipush (-2), 2) := by decide +kernel
theorem dX7_chip_45 : decode cX7_chip 45 = .ok (.ireturn, 1) := by decide +kernel
theorem dX7_allBits_0 : decode cX7_allBits 0 = .ok (.iconst 0, 1) := by decide +kernel
theorem dX7_allBits_1 : decode cX7_allBits 1 = .ok (.istore_n 1, 1) := by decide +kernel
theorem dX7_allBits_2 : decode cX7_allBits 2 = .ok (.iconst 0, 1) := by decide +kernel
theorem dX7_allBits_3 : decode cX7_allBits 3 = .ok (.istore_n 2, 1) := by decide +kernel
theorem dX7_allBits_4 : decode cX7_allBits 4 = .ok (.iload_n 2, 1) := by decide +kernel
theorem dX7_allBits_5 : decode cX7_allBits 5 = .ok (.aload_n 0, 1) := by decide +kernel
theorem dX7_allBits_6 : decode cX7_allBits 6 = .ok (.getfield 7, 3) := by decide +kernel
theorem dX7_allBits_9 : decode cX7_allBits 9 = .ok (.iconst 0, 1) := by decide +kernel
theorem dX7_allBits_10 : decode cX7_allBits 10 = .ok (.iaload, 1) := by decide +kernel
theorem dX7_allBits_11 : decode cX7_allBits 11 = .ok (.if_icmp .ge 17, 3) := by decide +kernel
theorem dX7_allBits_14 : decode cX7_allBits 14 = .ok (.iload_n 1, 1) := by decide +kernel
theorem dX7_allBits_15 : decode cX7_allBits 15 = .ok (.aload_n 0, 1) := by decide +kernel
theorem dX7_allBits_16 : decode cX7_allBits 16 = .ok (.iload_n 2, 1) := by decide +kernel
theorem dX7_allBits_17 : decode cX7_allBits 17 = .ok (.invokevirtual 91, 3) := by decide +kernel
theorem dX7_allBits_20 : decode cX7_allBits 20 = .ok (.iadd, 1) := by decide +kernel
theorem dX7_allBits_21 : decode cX7_allBits 21 = .ok (.istore_n 1, 1) := by decide +kernel
theorem dX7_allBits_22 : decode cX7_allBits 22 = .ok (.iinc 2 1, 3) := by decide +kernel
theorem dX7_allBits_25 : decode cX7_allBits 25 = .ok (.goto (-21), 3) := by decide +kernel
theorem dX7_allBits_28 : decode cX7_allBits 28 = .ok (.iload_n 1, 1) := by decide +kernel
theorem dX7_allBits_29 : decode cX7_allBits 29 = .ok (.ireturn, 1) := by decide +kernel
theorem dX7_count_0 : decode cX7_count 0 = .ok (.iload_n 1, 1) := by decide +kernel
theorem dX7_count_1 : decode cX7_count 1 = .ok (.tableswitch 106 0 8 #[51, 58, 64, 71, 78, 84, 89, 96, 101], 51) := by decide +kernel
theorem dX7_count_52 : decode cX7_count 52 = .ok (.aload_n 0, 1) := by decide +kernel
theorem dX7_count_53 : decode cX7_count 53 = .ok (.getfield 7, 3) := by decide +kernel
theorem dX7_count_56 : decode cX7_count 56 = .ok (.iconst 0, 1) := by decide +kernel
theorem dX7_count_57 : decode cX7_count 57 = .ok (.iaload, 1) := by decide +kernel
theorem dX7_count_58 : decode cX7_count 58 = .ok (.ireturn, 1) := by decide +kernel
theorem dX7_count_59 : decode cX7_count 59 = .ok (.aload_n 0, 1) := by decide +kernel
theorem dX7_count_60 : decode cX7_count 60 = .ok (.iconst 5, 1) := by decide +kernel
theorem dX7_count_61 : decode cX7_count 61 = .ok (.invokevirtual 77, 3) := by decide +kernel
theorem dX7_count_64 : decode cX7_count 64 = .ok (.ireturn, 1) := by decide +kernel
theorem dX7_count_65 : decode cX7_count 65 = .ok (.aload_n 0, 1) := by decide +kernel
theorem dX7_count_66 : decode cX7_count 66 = .ok (.getfield 7, 3) := by decide +kernel
theorem dX7_count_69 : decode cX7_count 69 = .ok (.iconst 1, 1) := by decide +kernel
theorem dX7_count_70 : decode cX7_count 70 = .ok (.iaload, 1) := by decide +kernel
theorem dX7_count_71 : decode cX7_count 71 = .ok (.ireturn, 1) := by decide +kernel
theorem dX7_count_72 : decode cX7_count 72 = .ok (.aload_n 0, 1) := by decide +kernel
theorem dX7_count_73 : decode cX7_count 73 = .ok (.getfield 7, 3) := by decide +kernel
theorem dX7_count_76 : decode cX7_count 76 = .ok (.iconst 2, 1) := by decide +kernel
theorem dX7_count_77 : decode cX7_count 77 = .ok (.iaload, 1) := by decide +kernel
theorem dX7_count_78 : decode cX7_count 78 = .ok (.ireturn, 1) := by decide +kernel
theorem dX7_count_79 : decode cX7_count 79 = .ok (.aload_n 0, 1) := by decide +kernel
theorem dX7_count_80 : decode cX7_count 80 = .ok (.iconst 0, 1) := by decide +kernel
theorem dX7_count_81 : decode cX7_count 81 = .ok (.invokevirtual 77, 3) := by decide +kernel
theorem dX7_count_84 : decode cX7_count 84 = .ok (.ireturn, 1) := by decide +kernel
theorem dX7_count_85 : decode cX7_count 85 = .ok (.aload_n 0, 1) := by decide +kernel
theorem dX7_count_86 : decode cX7_count 86 = .ok (.invokevirtual 140, 3) := by decide +kernel
theorem dX7_count_89 : decode cX7_count 89 = .ok (.ireturn, 1) := by decide +kernel
theorem dX7_count_90 : decode cX7_count 90 = .ok (.aload_n 0, 1) := by decide +kernel
theorem dX7_count_91 : decode cX7_count 91 = .ok (.getfield 7, 3) := by decide +kernel
theorem dX7_count_94 : decode cX7_count 94 = .ok (.iconst 3, 1) := by decide +kernel
theorem dX7_count_95 : decode cX7_count 95 = .ok (.iaload, 1) := by decide +kernel
theorem dX7_count_96 : decode cX7_count 96 = .ok (.ireturn, 1) := by decide +kernel
theorem dX7_count_97 : decode cX7_count 97 = .ok (.aload_n 0, 1) := by decide +kernel
theorem dX7_count_98 : decode cX7_count 98 = .ok (.getfield 32, 3) := by decide +kernel
theorem dX7_count_101 : decode cX7_count 101 = .ok (.ireturn, 1) := by decide +kernel
theorem dX7_count_102 : decode cX7_count 102 = .ok (.aload_n 0, 1) := by decide +kernel
theorem dX7_count_103 : decode cX7_count 103 = .ok (.getfield 131, 3) := by decide +kernel
theorem dX7_count_106 : decode cX7_count 106 = .ok (.ireturn, 1) := by decide +kernel
theorem dX7_count_107 : decode cX7_count 107 = .ok (.bipush (-2), 2) := by decide +kernel
theorem dX7_count_109 : decode cX7_count 109 = .ok (.ireturn, 1) := by decide +kernel
theorem dX7_found_0 : decode cX7_found 0 = .ok (.iload_n 1, 1) := by decide +kernel
theorem dX7_found_1 : decode cX7_found 1 = .ok (.ifCond .ge 8, 3) := by decide +kernel
theorem dX7_found_4 : decode cX7_found 4 = .ok (.bipush (-2), 2) := by decide +kernel
theorem dX7_found_6 : decode cX7_found 6 = .ok (.goto 26, 3) := by decide +kernel
theorem dX7_found_9 : decode cX7_found 9 = .ok (.iload_n 1, 1) := by decide +kernel
theorem dX7_found_10 : decode cX7_found 10 = .ok (.aload_n 0, 1) := by decide +kernel
theorem dX7_found_11 : decode cX7_found 11 = .ok (.getfield 7, 3) := by decide +kernel
theorem dX7_found_14 : decode cX7_found 14 = .ok (.iconst 3, 1) := by decide +kernel
theorem dX7_found_15 : decode cX7_found 15 = .ok (.iaload, 1) := by decide +kernel
theorem dX7_found_16 : decode cX7_found 16 = .ok (.if_icmp .ge 14, 3) := by decide +kernel
theorem dX7_found_19 : decode cX7_found 19 = .ok (.aload_n 0, 1) := by decide +kernel
theorem dX7_found_20 : decode cX7_found 20 = .ok (.getfield 7, 3) := by decide +kernel
theorem dX7_found_23 : decode cX7_found 23 = .ok (.iconst 4, 1) := by decide +kernel
theorem dX7_found_24 : decode cX7_found 24 = .ok (.iload_n 1, 1) := by decide +kernel
theorem dX7_found_25 : decode cX7_found 25 = .ok (.iadd, 1) := by decide +kernel
theorem dX7_found_26 : decode cX7_found 26 = .ok (.iaload, 1) := by decide +kernel
theorem dX7_found_27 : decode cX7_found 27 = .ok (.goto 5, 3) := by decide +kernel
theorem dX7_found_30 : decode cX7_found 30 = .ok (.bipush (-4), 2) := by decide +kernel
theorem dX7_found_32 : decode cX7_found 32 = .ok (.ireturn, 1) := by decide +kernel
theorem dX7_distance_0 : decode cX7_distance 0 = .ok (.iload_n 1, 1) := by decide +kernel
theorem dX7_distance_1 : decode cX7_distance 1 = .ok (.iconst 0, 1) := by decide +kernel
theorem dX7_distance_2 : decode cX7_distance 2 = .ok (.bipush 15, 2) := by decide +kernel
theorem dX7_distance_4 : decode cX7_distance 4 = .ok (.invokestatic 28, 3) := by decide +kernel
theorem dX7_distance_7 : decode cX7_distance 7 = .ok (.ifCond .eq 13, 3) := by decide +kernel
theorem dX7_distance_10 : decode cX7_distance 10 = .ok (.iload_n 2, 1) := by decide +kernel
theorem dX7_distance_11 : decode cX7_distance 11 = .ok (.iconst 0, 1) := by decide +kernel
theorem dX7_distance_12 : decode cX7_distance 12 = .ok (.bipush 15, 2) := by decide +kernel
theorem dX7_distance_14 : decode cX7_distance 14 = .ok (.invokestatic 28, 3) := by decide +kernel
theorem dX7_distance_17 : decode cX7_distance 17 = .ok (.ifCond .ne 6, 3) := by decide +kernel
theorem dX7_distance_20 : decode cX7_distance 20 = .ok (.bipush (-2), 2) := by decide +kernel
theorem dX7_distance_22 : decode cX7_distance 22 = .ok (.ireturn, 1) := by decide +kernel
theorem dX7_distance_23 : decode cX7_distance 23 = .ok (.aload_n 0, 1) := by decide +kernel
theorem dX7_distance_24 : decode cX7_distance 24 = .ok (.iload_n 2, 1) := by decide +kernel
theorem dX7_distance_25 : decode cX7_distance 25 = .ok (.invokevirtual 109, 3) := by decide +kernel
theorem dX7_distance_28 : decode cX7_distance 28 = .ok (.aload_n 0, 1) := by decide +kernel
theorem dX7_distance_29 : decode cX7_distance 29 = .ok (.getfield 25, 3) := by decide +kernel
theorem dX7_distance_32 : decode cX7_distance 32 = .ok (.iload_n 1, 1) := by decide +kernel
theorem dX7_distance_33 : decode cX7_distance 33 = .ok (.iaload, 1) := by decide +kernel
theorem dX7_distance_34 : decode cX7_distance 34 = .ok (.ireturn, 1) := by decide +kernel
theorem dX7_peek_0 : decode cX7_peek 0 = .ok (.iload_n 1, 1) := by decide +kernel
theorem dX7_peek_1 : decode cX7_peek 1 = .ok (.iconst 0, 1) := by decide +kernel
theorem dX7_peek_2 : decode cX7_peek 2 = .ok (.iconst 1, 1) := by decide +kernel
theorem dX7_peek_3 : decode cX7_peek 3 = .ok (.invokestatic 28, 3) := by decide +kernel
theorem dX7_peek_6 : decode cX7_peek 6 = .ok (.ifCond .eq 11, 3) := by decide +kernel
theorem dX7_peek_9 : decode cX7_peek 9 = .ok (.aload_n 0, 1) := by decide +kernel
theorem dX7_peek_10 : decode cX7_peek 10 = .ok (.iload_n 1, 1) := by decide +kernel
theorem dX7_peek_11 : decode cX7_peek 11 = .ok (.invokevirtual 94, 3) := by decide +kernel
theorem dX7_peek_14 : decode cX7_peek 14 = .ok (.goto 5, 3) := by decide +kernel
theorem dX7_peek_17 : decode cX7_peek 17 = .ok (.bipush (-2), 2) := by decide +kernel
theorem dX7_peek_19 : decode cX7_peek 19 = .ok (.ireturn, 1) := by decide +kernel
theorem dX7_ifIdentified_0 : decode cX7_ifIdentified 0 = .ok (.aload_n 0, 1) := by decide +kernel
theorem dX7_ifIdentified_1 : decode cX7_ifIdentified 1 = .ok (.getfield 7, 3) := by decide +kernel
theorem dX7_ifIdentified_4 : decode cX7_ifIdentified 4 = .ok (.iconst 0, 1) := by decide +kernel
theorem dX7_ifIdentified_5 : decode cX7_ifIdentified 5 = .ok (.aload_n 0, 1) := by decide +kernel
theorem dX7_ifIdentified_6 : decode cX7_ifIdentified 6 = .ok (.getfield 13, 3) := by decide +kernel
theorem dX7_ifIdentified_9 : decode cX7_ifIdentified 9 = .ok (.iconst 0, 1) := by decide +kernel
theorem dX7_ifIdentified_10 : decode cX7_ifIdentified 10 = .ok (.invokestatic 36, 3) := by decide +kernel
theorem dX7_ifIdentified_13 : decode cX7_ifIdentified 13 = .ok (.aload_n 0, 1) := by decide +kernel
theorem dX7_ifIdentified_14 : decode cX7_ifIdentified 14 = .ok (.invokevirtual 118, 3) := by decide +kernel
theorem dX7_ifIdentified_17 : decode cX7_ifIdentified 17 = .ok (.aload_n 0, 1) := by decide +kernel
theorem dX7_ifIdentified_18 : decode cX7_ifIdentified 18 = .ok (.getfield 7, 3) := by decide +kernel
theorem dX7_ifIdentified_21 : decode cX7_ifIdentified 21 = .ok (.iconst 3, 1) := by decide +kernel
theorem dX7_ifIdentified_22 : decode cX7_ifIdentified 22 = .ok (.iaload, 1) := by decide +kernel
theorem dX7_ifIdentified_23 : decode cX7_ifIdentified 23 = .ok (.istore_n 1, 1) := by decide +kernel
theorem dX7_ifIdentified_24 : decode cX7_ifIdentified 24 = .ok (.aload_n 0, 1) := by decide +kernel
theorem dX7_ifIdentified_25 : decode cX7_ifIdentified 25 = .ok (.getfield 13, 3) := by decide +kernel
theorem dX7_ifIdentified_28 : decode cX7_ifIdentified 28 = .ok (.iconst 0, 1) := by decide +kernel
theorem dX7_ifIdentified_29 : decode cX7_ifIdentified 29 = .ok (.aload_n 0, 1) := by decide +kernel
theorem dX7_ifIdentified_30 : decode cX7_ifIdentified 30 = .ok (.getfield 7, 3) := by decide +kernel
theorem dX7_ifIdentified_33 : decode cX7_ifIdentified 33 = .ok (.iconst 0, 1) := by decide +kernel
theorem dX7_ifIdentified_34 : decode cX7_ifIdentified 34 = .ok (.invokestatic 36, 3) := by decide +kernel
theorem dX7_ifIdentified_37 : decode cX7_ifIdentified 37 = .ok (.iload_n 1, 1) := by decide +kernel
theorem dX7_ifIdentified_38 : decode cX7_ifIdentified 38 = .ok (.ireturn, 1) := by decide +kernel
theorem dX7_ifExchanged_0 : decode cX7_ifExchanged 0 = .ok (.aload_n 0, 1) := by decide +kernel
theorem dX7_ifExchanged_1 : decode cX7_ifExchanged 1 = .ok (.iload_n 1, 1) := by decide +kernel
theorem dX7_ifExchanged_2 : decode cX7_ifExchanged 2 = .ok (.iload_n 2, 1) := by decide +kernel
theorem dX7_ifExchanged_3 : decode cX7_ifExchanged 3 = .ok (.invokevirtual 125, 3) := by decide +kernel
theorem dX7_ifExchanged_6 : decode cX7_ifExchanged 6 = .ok (.istore_n 3, 1) := by decide +kernel
theorem dX7_ifExchanged_7 : decode cX7_ifExchanged 7 = .ok (.iload_n 3, 1) := by decide +kernel
theorem dX7_ifExchanged_8 : decode cX7_ifExchanged 8 = .ok (.ifCond .ge 5, 3) := by decide +kernel
theorem dX7_ifExchanged_11 : decode cX7_ifExchanged 11 = .ok (.iload_n 3, 1) := by decide +kernel
theorem dX7_ifExchanged_12 : decode cX7_ifExchanged 12 = .ok (.ireturn, 1) := by decide +kernel
theorem dX7_ifExchanged_13 : decode cX7_ifExchanged 13 = .ok (.aload_n 0, 1) := by decide +kernel
theorem dX7_ifExchanged_14 : decode cX7_ifExchanged 14 = .ok (.getfield 7, 3) := by decide +kernel
theorem dX7_ifExchanged_17 : decode cX7_ifExchanged 17 = .ok (.iconst 0, 1) := by decide +kernel
theorem dX7_ifExchanged_18 : decode cX7_ifExchanged 18 = .ok (.aload_n 0, 1) := by decide +kernel
theorem dX7_ifExchanged_19 : decode cX7_ifExchanged 19 = .ok (.getfield 13, 3) := by decide +kernel
theorem dX7_ifExchanged_22 : decode cX7_ifExchanged 22 = .ok (.iconst 0, 1) := by decide +kernel
theorem dX7_ifExchanged_23 : decode cX7_ifExchanged 23 = .ok (.invokestatic 36, 3) := by decide +kernel
theorem dX7_ifExchanged_26 : decode cX7_ifExchanged 26 = .ok (.aload_n 0, 1) := by decide +kernel
theorem dX7_ifExchanged_27 : decode cX7_ifExchanged 27 = .ok (.iload_n 1, 1) := by decide +kernel
theorem dX7_ifExchanged_28 : decode cX7_ifExchanged 28 = .ok (.iload_n 2, 1) := by decide +kernel
theorem dX7_ifExchanged_29 : decode cX7_ifExchanged 29 = .ok (.invokevirtual 128, 3) := by decide +kernel
theorem dX7_ifExchanged_32 : decode cX7_ifExchanged 32 = .ok (.istore 4, 2) := by decide +kernel
theorem dX7_ifExchanged_34 : decode cX7_ifExchanged 34 = .ok (.aload_n 0, 1) := by decide +kernel
theorem dX7_ifExchanged_35 : decode cX7_ifExchanged 35 = .ok (.getfield 13, 3) := by decide +kernel
theorem dX7_ifExchanged_38 : decode cX7_ifExchanged 38 = .ok (.iconst 0, 1) := by decide +kernel
theorem dX7_ifExchanged_39 : decode cX7_ifExchanged 39 = .ok (.aload_n 0, 1) := by decide +kernel
theorem dX7_ifExchanged_40 : decode cX7_ifExchanged 40 = .ok (.getfield 7, 3) := by decide +kernel
theorem dX7_ifExchanged_43 : decode cX7_ifExchanged 43 = .ok (.iconst 0, 1) := by decide +kernel
theorem dX7_ifExchanged_44 : decode cX7_ifExchanged 44 = .ok (.invokestatic 36, 3) := by decide +kernel
theorem dX7_ifExchanged_47 : decode cX7_ifExchanged 47 = .ok (.iload 4, 2) := by decide +kernel
theorem dX7_ifExchanged_49 : decode cX7_ifExchanged 49 = .ok (.ireturn, 1) := by decide +kernel
theorem dX7_bypassed_0 : decode cX7_bypassed 0 = .ok (.iconst 0, 1) := by decide +kernel
theorem dX7_bypassed_1 : decode cX7_bypassed 1 = .ok (.istore_n 1, 1) := by decide +kernel
theorem dX7_bypassed_2 : decode cX7_bypassed 2 = .ok (.iconst 0, 1) := by decide +kernel
theorem dX7_bypassed_3 : decode cX7_bypassed 3 = .ok (.istore_n 2, 1) := by decide +kernel
theorem dX7_bypassed_4 : decode cX7_bypassed 4 = .ok (.iload_n 2, 1) := by decide +kernel
theorem dX7_bypassed_5 : decode cX7_bypassed 5 = .ok (.aload_n 0, 1) := by decide +kernel
theorem dX7_bypassed_6 : decode cX7_bypassed 6 = .ok (.getfield 7, 3) := by decide +kernel
theorem dX7_bypassed_9 : decode cX7_bypassed 9 = .ok (.iconst 0, 1) := by decide +kernel
theorem dX7_bypassed_10 : decode cX7_bypassed 10 = .ok (.iaload, 1) := by decide +kernel
theorem dX7_bypassed_11 : decode cX7_bypassed 11 = .ok (.if_icmp .ge 33, 3) := by decide +kernel
theorem dX7_bypassed_14 : decode cX7_bypassed 14 = .ok (.iload_n 1, 1) := by decide +kernel
theorem dX7_bypassed_15 : decode cX7_bypassed 15 = .ok (.aload_n 0, 1) := by decide +kernel
theorem dX7_bypassed_16 : decode cX7_bypassed 16 = .ok (.iload_n 2, 1) := by decide +kernel
theorem dX7_bypassed_17 : decode cX7_bypassed 17 = .ok (.invokevirtual 51, 3) := by decide +kernel
theorem dX7_bypassed_20 : decode cX7_bypassed 20 = .ok (.ifCond .ne 11, 3) := by decide +kernel
theorem dX7_bypassed_23 : decode cX7_bypassed 23 = .ok (.aload_n 0, 1) := by decide +kernel
theorem dX7_bypassed_24 : decode cX7_bypassed 24 = .ok (.iload_n 2, 1) := by decide +kernel
theorem dX7_bypassed_25 : decode cX7_bypassed 25 = .ok (.invokevirtual 55, 3) := by decide +kernel
theorem dX7_bypassed_28 : decode cX7_bypassed 28 = .ok (.ifCond .eq 7, 3) := by decide +kernel
theorem dX7_bypassed_31 : decode cX7_bypassed 31 = .ok (.iconst 0, 1) := by decide +kernel
theorem dX7_bypassed_32 : decode cX7_bypassed 32 = .ok (.goto 4, 3) := by decide +kernel
theorem dX7_bypassed_35 : decode cX7_bypassed 35 = .ok (.iconst 1, 1) := by decide +kernel
theorem dX7_bypassed_36 : decode cX7_bypassed 36 = .ok (.iadd, 1) := by decide +kernel
theorem dX7_bypassed_37 : decode cX7_bypassed 37 = .ok (.istore_n 1, 1) := by decide +kernel
theorem dX7_bypassed_38 : decode cX7_bypassed 38 = .ok (.iinc 2 1, 3) := by decide +kernel
theorem dX7_bypassed_41 : decode cX7_bypassed 41 = .ok (.goto (-37), 3) := by decide +kernel
theorem dX7_bypassed_44 : decode cX7_bypassed 44 = .ok (.iload_n 1, 1) := by decide +kernel
theorem dX7_bypassed_45 : decode cX7_bypassed 45 = .ok (.i2f, 1) := by decide +kernel
theorem dX7_bypassed_46 : decode cX7_bypassed 46 = .ok (.fstore_n 2, 1) := by decide +kernel
theorem dX7_bypassed_47 : decode cX7_bypassed 47 = .ok (.aload_n 0, 1) := by decide +kernel
theorem dX7_bypassed_48 : decode cX7_bypassed 48 = .ok (.getfield 7, 3) := by decide +kernel
theorem dX7_bypassed_51 : decode cX7_bypassed 51 = .ok (.iconst 0, 1) := by decide +kernel
theorem dX7_bypassed_52 : decode cX7_bypassed 52 = .ok (.iaload, 1) := by decide +kernel
theorem dX7_bypassed_53 : decode cX7_bypassed 53 = .ok (.i2f, 1) := by decide +kernel
theorem dX7_bypassed_54 : decode cX7_bypassed 54 = .ok (.fstore_n 3, 1) := by decide +kernel
theorem dX7_bypassed_55 : decode cX7_bypassed 55 = .ok (.aload_n 0, 1) := by decide +kernel
theorem dX7_bypassed_56 : decode cX7_bypassed 56 = .ok (.getfield 7, 3) := by decide +kernel
theorem dX7_bypassed_59 : decode cX7_bypassed 59 = .ok (.iconst 0, 1) := by decide +kernel
theorem dX7_bypassed_60 : decode cX7_bypassed 60 = .ok (.iaload, 1) := by decide +kernel
theorem dX7_bypassed_61 : decode cX7_bypassed 61 = .ok (.ifCond .ne 7, 3) := by decide +kernel
theorem dX7_bypassed_64 : decode cX7_bypassed 64 = .ok (.fconst 0, 1) := by decide +kernel
theorem dX7_bypassed_65 : decode cX7_bypassed 65 = .ok (.goto 6, 3) := by decide +kernel
theorem dX7_bypassed_68 : decode cX7_bypassed 68 = .ok (.fload_n 2, 1) := by decide +kernel
theorem dX7_bypassed_69 : decode cX7_bypassed 69 = .ok (.fload_n 3, 1) := by decide +kernel
theorem dX7_bypassed_70 : decode cX7_bypassed 70 = .ok (.fdiv, 1) := by decide +kernel
theorem dX7_bypassed_71 : decode cX7_bypassed 71 = .ok (.freturn, 1) := by decide +kernel
