theorem dX0_init_0 : decode cX0_init 0 = .ok (.aload_n 0, 1) := by decide +kernel
theorem dX0_init_1 : decode cX0_init 1 = .ok (.invokespecial 3, 3) := by decide +kernel
theorem dX0_init_4 : decode cX0_init 4 = .ok (.aload_n 0, 1) := by decide +kernel
theorem dX0_init_5 : decode cX0_init 5 = .ok (.bipush 6, 2) := by decide +kernel
theorem dX0_init_7 : decode cX0_init 7 = .ok (.anewarray 9, 3) := by decide +kernel
theorem dX0_init_10 : decode cX0_init 10 = .ok (.putfield 11, 3) := by decide +kernel
theorem dX0_init_13 : decode cX0_init 13 = .ok (.iconst 0, 1) := by decide +kernel
theorem dX0_init_14 : decode cX0_init 14 = .ok (.istore_n 1, 1) := by decide +kernel
theorem dX0_init_15 : decode cX0_init 15 = .ok (.iload_n 1, 1) := by decide +kernel
theorem dX0_init_16 : decode cX0_init 16 = .ok (.aload_n 0, 1) := by decide +kernel
theorem dX0_init_17 : decode cX0_init 17 = .ok (.getfield 11, 3) := by decide +kernel
theorem dX0_init_20 : decode cX0_init 20 = .ok (.arraylength, 1) := by decide +kernel
theorem dX0_init_21 : decode cX0_init 21 = .ok (.if_icmp .ge 22, 3) := by decide +kernel
theorem dX0_init_24 : decode cX0_init 24 = .ok (.aload_n 0, 1) := by decide +kernel
theorem dX0_init_25 : decode cX0_init 25 = .ok (.getfield 11, 3) := by decide +kernel
theorem dX0_init_28 : decode cX0_init 28 = .ok (.iload_n 1, 1) := by decide +kernel
theorem dX0_init_29 : decode cX0_init 29 = .ok (.new 9, 3) := by decide +kernel
theorem dX0_init_32 : decode cX0_init 32 = .ok (.dup, 1) := by decide +kernel
theorem dX0_init_33 : decode cX0_init 33 = .ok (.invokespecial 17, 3) := by decide +kernel
theorem dX0_init_36 : decode cX0_init 36 = .ok (.aastore, 1) := by decide +kernel
theorem dX0_init_37 : decode cX0_init 37 = .ok (.iinc 1 1, 3) := by decide +kernel
theorem dX0_init_40 : decode cX0_init 40 = .ok (.goto (-25), 3) := by decide +kernel
theorem dX0_init_43 : decode cX0_init 43 = .ok (.aload_n 0, 1) := by decide +kernel
theorem dX0_init_44 : decode cX0_init 44 = .ok (.iconst 0, 1) := by decide +kernel
theorem dX0_init_45 : decode cX0_init 45 = .ok (.putfield 18, 3) := by decide +kernel
theorem dX0_init_48 : decode cX0_init 48 = .ok (.aload_n 0, 1) := by decide +kernel
theorem dX0_init_49 : decode cX0_init 49 = .ok (.iconst 0, 1) := by decide +kernel
theorem dX0_init_50 : decode cX0_init 50 = .ok (.putfield 24, 3) := by decide +kernel
theorem dX0_init_53 : decode cX0_init 53 = .ok (.aload_n 0, 1) := by decide +kernel
theorem dX0_init_54 : decode cX0_init 54 = .ok (.iconst 0, 1) := by decide +kernel
theorem dX0_init_55 : decode cX0_init 55 = .ok (.putfield 27, 3) := by decide +kernel
theorem dX0_init_58 : decode cX0_init 58 = .ok (.aload_n 0, 1) := by decide +kernel
theorem dX0_init_59 : decode cX0_init 59 = .ok (.bipush 8, 2) := by decide +kernel
theorem dX0_init_61 : decode cX0_init 61 = .ok (.newarray .int, 2) := by decide +kernel
theorem dX0_init_63 : decode cX0_init 63 = .ok (.putfield 30, 3) := by decide +kernel
theorem dX0_init_66 : decode cX0_init 66 = .ok (.aload_n 0, 1) := by decide +kernel
theorem dX0_init_67 : decode cX0_init 67 = .ok (.iconst 0, 1) := by decide +kernel
theorem dX0_init_68 : decode cX0_init 68 = .ok (.putfield 34, 3) := by decide +kernel
theorem dX0_init_71 : decode cX0_init 71 = .ok (.return_, 1) := by decide +kernel
theorem dX0_becomeCopyOf_0 : decode cX0_becomeCopyOf 0 = .ok (.iconst 0, 1) := by decide +kernel
theorem dX0_becomeCopyOf_1 : decode cX0_becomeCopyOf 1 = .ok (.istore_n 2, 1) := by decide +kernel
theorem dX0_becomeCopyOf_2 : decode cX0_becomeCopyOf 2 = .ok (.iload_n 2, 1) := by decide +kernel
theorem dX0_becomeCopyOf_3 : decode cX0_becomeCopyOf 3 = .ok (.aload_n 1, 1) := by decide +kernel
theorem dX0_becomeCopyOf_4 : decode cX0_becomeCopyOf 4 = .ok (.getfield 18, 3) := by decide +kernel
theorem dX0_becomeCopyOf_7 : decode cX0_becomeCopyOf 7 = .ok (.if_icmp .ge 24, 3) := by decide +kernel
theorem dX0_becomeCopyOf_10 : decode cX0_becomeCopyOf 10 = .ok (.aload_n 0, 1) := by decide +kernel
theorem dX0_becomeCopyOf_11 : decode cX0_becomeCopyOf 11 = .ok (.getfield 11, 3) := by decide +kernel
theorem dX0_becomeCopyOf_14 : decode cX0_becomeCopyOf 14 = .ok (.iload_n 2, 1) := by decide +kernel
theorem dX0_becomeCopyOf_15 : decode cX0_becomeCopyOf 15 = .ok (.aaload, 1) := by decide +kernel
theorem dX0_becomeCopyOf_16 : decode cX0_becomeCopyOf 16 = .ok (.aload_n 1, 1) := by decide +kernel
theorem dX0_becomeCopyOf_17 : decode cX0_becomeCopyOf 17 = .ok (.getfield 11, 3) := by decide +kernel
theorem dX0_becomeCopyOf_20 : decode cX0_becomeCopyOf 20 = .ok (.iload_n 2, 1) := by decide +kernel
theorem dX0_becomeCopyOf_21 : decode cX0_becomeCopyOf 21 = .ok (.aaload, 1) := by decide +kernel
theorem dX0_becomeCopyOf_22 : decode cX0_becomeCopyOf 22 = .ok (.invokevirtual 37, 3) := by decide +kernel
theorem dX0_becomeCopyOf_25 : decode cX0_becomeCopyOf 25 = .ok (.iinc 2 1, 3) := by decide +kernel
theorem dX0_becomeCopyOf_28 : decode cX0_becomeCopyOf 28 = .ok (.goto (-26), 3) := by decide +kernel
theorem dX0_becomeCopyOf_31 : decode cX0_becomeCopyOf 31 = .ok (.aload_n 0, 1) := by decide +kernel
theorem dX0_becomeCopyOf_32 : decode cX0_becomeCopyOf 32 = .ok (.aload_n 1, 1) := by decide +kernel
theorem dX0_becomeCopyOf_33 : decode cX0_becomeCopyOf 33 = .ok (.getfield 18, 3) := by decide +kernel
theorem dX0_becomeCopyOf_36 : decode cX0_becomeCopyOf 36 = .ok (.putfield 18, 3) := by decide +kernel
theorem dX0_becomeCopyOf_39 : decode cX0_becomeCopyOf 39 = .ok (.aload_n 0, 1) := by decide +kernel
theorem dX0_becomeCopyOf_40 : decode cX0_becomeCopyOf 40 = .ok (.aload_n 1, 1) := by decide +kernel
theorem dX0_becomeCopyOf_41 : decode cX0_becomeCopyOf 41 = .ok (.getfield 24, 3) := by decide +kernel
theorem dX0_becomeCopyOf_44 : decode cX0_becomeCopyOf 44 = .ok (.putfield 24, 3) := by decide +kernel
theorem dX0_becomeCopyOf_47 : decode cX0_becomeCopyOf 47 = .ok (.aload_n 0, 1) := by decide +kernel
theorem dX0_becomeCopyOf_48 : decode cX0_becomeCopyOf 48 = .ok (.aload_n 1, 1) := by decide +kernel
theorem dX0_becomeCopyOf_49 : decode cX0_becomeCopyOf 49 = .ok (.getfield 27, 3) := by decide +kernel
theorem dX0_becomeCopyOf_52 : decode cX0_becomeCopyOf 52 = .ok (.putfield 27, 3) := by decide +kernel
theorem dX0_becomeCopyOf_55 : decode cX0_becomeCopyOf 55 = .ok (.iconst 0, 1) := by decide +kernel
theorem dX0_becomeCopyOf_56 : decode cX0_becomeCopyOf 56 = .ok (.istore_n 2, 1) := by decide +kernel
theorem dX0_becomeCopyOf_57 : decode cX0_becomeCopyOf 57 = .ok (.iload_n 2, 1) := by decide +kernel
theorem dX0_becomeCopyOf_58 : decode cX0_becomeCopyOf 58 = .ok (.aload_n 1, 1) := by decide +kernel
theorem dX0_becomeCopyOf_59 : decode cX0_becomeCopyOf 59 = .ok (.getfield 34, 3) := by decide +kernel
theorem dX0_becomeCopyOf_62 : decode cX0_becomeCopyOf 62 = .ok (.if_icmp .ge 21, 3) := by decide +kernel
theorem dX0_becomeCopyOf_65 : decode cX0_becomeCopyOf 65 = .ok (.aload_n 0, 1) := by decide +kernel
theorem dX0_becomeCopyOf_66 : decode cX0_becomeCopyOf 66 = .ok (.getfield 30, 3) := by decide +kernel
theorem dX0_becomeCopyOf_69 : decode cX0_becomeCopyOf 69 = .ok (.iload_n 2, 1) := by decide +kernel
theorem dX0_becomeCopyOf_70 : decode cX0_becomeCopyOf 70 = .ok (.aload_n 1, 1) := by decide +kernel
theorem dX0_becomeCopyOf_71 : decode cX0_becomeCopyOf 71 = .ok (.getfield 30, 3) := by decide +kernel
theorem dX0_becomeCopyOf_74 : decode cX0_becomeCopyOf 74 = .ok (.iload_n 2, 1) := by decide +kernel
theorem dX0_becomeCopyOf_75 : decode cX0_becomeCopyOf 75 = .ok (.iaload, 1) := by decide +kernel
theorem dX0_becomeCopyOf_76 : decode cX0_becomeCopyOf 76 = .ok (.iastore, 1) := by decide +kernel
theorem dX0_becomeCopyOf_77 : decode cX0_becomeCopyOf 77 = .ok (.iinc 2 1, 3) := by decide +kernel
theorem dX0_becomeCopyOf_80 : decode cX0_becomeCopyOf 80 = .ok (.goto (-23), 3) := by decide +kernel
theorem dX0_becomeCopyOf_83 : decode cX0_becomeCopyOf 83 = .ok (.aload_n 0, 1) := by decide +kernel
theorem dX0_becomeCopyOf_84 : decode cX0_becomeCopyOf 84 = .ok (.aload_n 1, 1) := by decide +kernel
theorem dX0_becomeCopyOf_85 : decode cX0_becomeCopyOf 85 = .ok (.getfield 34, 3) := by decide +kernel
theorem dX0_becomeCopyOf_88 : decode cX0_becomeCopyOf 88 = .ok (.putfield 34, 3) := by decide +kernel
theorem dX0_becomeCopyOf_91 : decode cX0_becomeCopyOf 91 = .ok (.return_, 1) := by decide +kernel
theorem dX0_has_0 : decode cX0_has 0 = .ok (.iload_n 1, 1) := by decide +kernel
theorem dX0_has_1 : decode cX0_has 1 = .ok (.ifCond .lt 15, 3) := by decide +kernel
theorem dX0_has_4 : decode cX0_has 4 = .ok (.iload_n 1, 1) := by decide +kernel
theorem dX0_has_5 : decode cX0_has 5 = .ok (.aload_n 0, 1) := by decide +kernel
theorem dX0_has_6 : decode cX0_has 6 = .ok (.getfield 18, 3) := by decide +kernel
theorem dX0_has_9 : decode cX0_has 9 = .ok (.if_icmp .ge 7, 3) := by decide +kernel
theorem dX0_has_12 : decode cX0_has 12 = .ok (.iconst 1, 1) := by decide +kernel
theorem dX0_has_13 : decode cX0_has 13 = .ok (.goto 4, 3) := by decide +kernel
theorem dX0_has_16 : decode cX0_has 16 = .ok (.iconst 0, 1) := by decide +kernel
theorem dX0_has_17 : decode cX0_has 17 = .ok (.ireturn, 1) := by decide +kernel
theorem dX0_putBehind_0 : decode cX0_putBehind 0 = .ok (.aload_n 0, 1) := by decide +kernel
theorem dX0_putBehind_1 : decode cX0_putBehind 1 = .ok (.getfield 18, 3) := by decide +kernel
theorem dX0_putBehind_4 : decode cX0_putBehind 4 = .ok (.istore 4, 2) := by decide +kernel
theorem dX0_putBehind_6 : decode cX0_putBehind 6 = .ok (.iload 4, 2) := by decide +kernel
theorem dX0_putBehind_8 : decode cX0_putBehind 8 = .ok (.aload_n 0, 1) := by decide +kernel
theorem dX0_putBehind_9 : decode cX0_putBehind 9 = .ok (.getfield 11, 3) := by decide +kernel
theorem dX0_putBehind_12 : decode cX0_putBehind 12 = .ok (.arraylength, 1) := by decide +kernel
theorem dX0_putBehind_13 : decode cX0_putBehind 13 = .ok (.if_icmp .ge 26, 3) := by decide +kernel
theorem dX0_putBehind_16 : decode cX0_putBehind 16 = .ok (.aload_n 0, 1) := by decide +kernel
theorem dX0_putBehind_17 : decode cX0_putBehind 17 = .ok (.getfield 11, 3) := by decide +kernel
theorem dX0_putBehind_20 : decode cX0_putBehind 20 = .ok (.iload 4, 2) := by decide +kernel
theorem dX0_putBehind_22 : decode cX0_putBehind 22 = .ok (.aaload, 1) := by decide +kernel
theorem dX0_putBehind_23 : decode cX0_putBehind 23 = .ok (.iload_n 1, 1) := by decide +kernel
theorem dX0_putBehind_24 : decode cX0_putBehind 24 = .ok (.iload_n 2, 1) := by decide +kernel
theorem dX0_putBehind_25 : decode cX0_putBehind 25 = .ok (.iload_n 3, 1) := by decide +kernel
theorem dX0_putBehind_26 : decode cX0_putBehind 26 = .ok (.invokevirtual 41, 3) := by decide +kernel
theorem dX0_putBehind_29 : decode cX0_putBehind 29 = .ok (.aload_n 0, 1) := by decide +kernel
theorem dX0_putBehind_30 : decode cX0_putBehind 30 = .ok (.dup, 1) := by decide +kernel
theorem dX0_putBehind_31 : decode cX0_putBehind 31 = .ok (.getfield 18, 3) := by decide +kernel
theorem dX0_putBehind_34 : decode cX0_putBehind 34 = .ok (.iconst 1, 1) := by decide +kernel
theorem dX0_putBehind_35 : decode cX0_putBehind 35 = .ok (.iadd, 1) := by decide +kernel
theorem dX0_putBehind_36 : decode cX0_putBehind 36 = .ok (.putfield 18, 3) := by decide +kernel
theorem dX0_putBehind_39 : decode cX0_putBehind 39 = .ok (.iload 4, 2) := by decide +kernel
theorem dX0_putBehind_41 : decode cX0_putBehind 41 = .ok (.ireturn, 1) := by decide +kernel
theorem dX0_takeOut_0 : decode cX0_takeOut 0 = .ok (.aload_n 0, 1) := by decide +kernel
theorem dX0_takeOut_1 : decode cX0_takeOut 1 = .ok (.getfield 11, 3) := by decide +kernel
theorem dX0_takeOut_4 : decode cX0_takeOut 4 = .ok (.iload_n 1, 1) := by decide +kernel
theorem dX0_takeOut_5 : decode cX0_takeOut 5 = .ok (.aaload, 1) := by decide +kernel
theorem dX0_takeOut_6 : decode cX0_takeOut 6 = .ok (.getfield 45, 3) := by decide +kernel
theorem dX0_takeOut_9 : decode cX0_takeOut 9 = .ok (.istore_n 2, 1) := by decide +kernel
theorem dX0_takeOut_10 : decode cX0_takeOut 10 = .ok (.iload_n 1, 1) := by decide +kernel
theorem dX0_takeOut_11 : decode cX0_takeOut 11 = .ok (.iconst 1, 1) := by decide +kernel
theorem dX0_takeOut_12 : decode cX0_takeOut 12 = .ok (.iadd, 1) := by decide +kernel
theorem dX0_takeOut_13 : decode cX0_takeOut 13 = .ok (.istore_n 3, 1) := by decide +kernel
theorem dX0_takeOut_14 : decode cX0_takeOut 14 = .ok (.iload_n 3, 1) := by decide +kernel
theorem dX0_takeOut_15 : decode cX0_takeOut 15 = .ok (.aload_n 0, 1) := by decide +kernel
theorem dX0_takeOut_16 : decode cX0_takeOut 16 = .ok (.getfield 18, 3) := by decide +kernel
theorem dX0_takeOut_19 : decode cX0_takeOut 19 = .ok (.if_icmp .ge 26, 3) := by decide +kernel
theorem dX0_takeOut_22 : decode cX0_takeOut 22 = .ok (.aload_n 0, 1) := by decide +kernel
theorem dX0_takeOut_23 : decode cX0_takeOut 23 = .ok (.getfield 11, 3) := by decide +kernel
theorem dX0_takeOut_26 : decode cX0_takeOut 26 = .ok (.iload_n 3, 1) := by decide +kernel
theorem dX0_takeOut_27 : decode cX0_takeOut 27 = .ok (.iconst 1, 1) := by decide +kernel
theorem dX0_takeOut_28 : decode cX0_takeOut 28 = .ok (.isub, 1) := by decide +kernel
theorem dX0_takeOut_29 : decode cX0_takeOut 29 = .ok (.aaload, 1) := by decide +kernel
theorem dX0_takeOut_30 : decode cX0_takeOut 30 = .ok (.aload_n 0, 1) := by decide +kernel
theorem dX0_takeOut_31 : decode cX0_takeOut 31 = .ok (.getfield 11, 3) := by decide +kernel
theorem dX0_takeOut_34 : decode cX0_takeOut 34 = .ok (.iload_n 3, 1) := by decide +kernel
theorem dX0_takeOut_35 : decode cX0_takeOut 35 = .ok (.aaload, 1) := by decide +kernel
theorem dX0_takeOut_36 : decode cX0_takeOut 36 = .ok (.invokevirtual 37, 3) := by decide +kernel
theorem dX0_takeOut_39 : decode cX0_takeOut 39 = .ok (.iinc 3 1, 3) := by decide +kernel
theorem dX0_takeOut_42 : decode cX0_takeOut 42 = .ok (.goto (-28), 3) := by decide +kernel
theorem dX0_takeOut_45 : decode cX0_takeOut 45 = .ok (.aload_n 0, 1) := by decide +kernel
theorem dX0_takeOut_46 : decode cX0_takeOut 46 = .ok (.dup, 1) := by decide +kernel
theorem dX0_takeOut_47 : decode cX0_takeOut 47 = .ok (.getfield 18, 3) := by decide +kernel
theorem dX0_takeOut_50 : decode cX0_takeOut 50 = .ok (.iconst 1, 1) := by decide +kernel
theorem dX0_takeOut_51 : decode cX0_takeOut 51 = .ok (.isub, 1) := by decide +kernel
theorem dX0_takeOut_52 : decode cX0_takeOut 52 = .ok (.putfield 18, 3) := by decide +kernel
theorem dX0_takeOut_55 : decode cX0_takeOut 55 = .ok (.iload_n 2, 1) := by decide +kernel
theorem dX0_takeOut_56 : decode cX0_takeOut 56 = .ok (.ireturn, 1) := by decide +kernel
theorem dX0_brokenChips_0 : decode cX0_brokenChips 0 = .ok (.iconst 0, 1) := by decide +kernel
theorem dX0_brokenChips_1 : decode cX0_brokenChips 1 = .ok (.istore_n 1, 1) := by decide +kernel
theorem dX0_brokenChips_2 : decode cX0_brokenChips 2 = .ok (.iconst 0, 1) := by decide +kernel
theorem dX0_brokenChips_3 : decode cX0_brokenChips 3 = .ok (.istore_n 2, 1) := by decide +kernel
theorem dX0_brokenChips_4 : decode cX0_brokenChips 4 = .ok (.iload_n 2, 1) := by decide +kernel
theorem dX0_brokenChips_5 : decode cX0_brokenChips 5 = .ok (.aload_n 0, 1) := by decide +kernel
theorem dX0_brokenChips_6 : decode cX0_brokenChips 6 = .ok (.getfield 18, 3) := by decide +kernel
theorem dX0_brokenChips_9 : decode cX0_brokenChips 9 = .ok (.if_icmp .ge 29, 3) := by decide +kernel
theorem dX0_brokenChips_12 : decode cX0_brokenChips 12 = .ok (.iload_n 1, 1) := by decide +kernel
theorem dX0_brokenChips_13 : decode cX0_brokenChips 13 = .ok (.aload_n 0, 1) := by decide +kernel
theorem dX0_brokenChips_14 : decode cX0_brokenChips 14 = .ok (.getfield 11, 3) := by decide +kernel
theorem dX0_brokenChips_17 : decode cX0_brokenChips 17 = .ok (.iload_n 2, 1) := by decide +kernel
theorem dX0_brokenChips_18 : decode cX0_brokenChips 18 = .ok (.aaload, 1) := by decide +kernel
theorem dX0_brokenChips_19 : decode cX0_brokenChips 19 = .ok (.getfield 48, 3) := by decide +kernel
theorem dX0_brokenChips_22 : decode cX0_brokenChips 22 = .ok (.ifCond .eq 7, 3) := by decide +kernel
theorem dX0_brokenChips_25 : decode cX0_brokenChips 25 = .ok (.iconst 1, 1) := by decide +kernel
theorem dX0_brokenChips_26 : decode cX0_brokenChips 26 = .ok (.goto 4, 3) := by decide +kernel
theorem dX0_brokenChips_29 : decode cX0_brokenChips 29 = .ok (.iconst 0, 1) := by decide +kernel
theorem dX0_brokenChips_30 : decode cX0_brokenChips 30 = .ok (.iadd, 1) := by decide +kernel
theorem dX0_brokenChips_31 : decode cX0_brokenChips 31 = .ok (.istore_n 1, 1) := by decide +kernel
theorem dX0_brokenChips_32 : decode cX0_brokenChips 32 = .ok (.iinc 2 1, 3) := by decide +kernel
theorem dX0_brokenChips_35 : decode cX0_brokenChips 35 = .ok (.goto (-31), 3) := by decide +kernel
theorem dX0_brokenChips_38 : decode cX0_brokenChips 38 = .ok (.iload_n 1, 1) := by decide +kernel
theorem dX0_brokenChips_39 : decode cX0_brokenChips 39 = .ok (.ireturn, 1) := by decide +kernel
theorem dX0_bypassedChips_0 : decode cX0_bypassedChips 0 = .ok (.iconst 0, 1) := by decide +kernel
theorem dX0_bypassedChips_1 : decode cX0_bypassedChips 1 = .ok (.istore_n 1, 1) := by decide +kernel
theorem dX0_bypassedChips_2 : decode cX0_bypassedChips 2 = .ok (.iconst 0, 1) := by decide +kernel
theorem dX0_bypassedChips_3 : decode cX0_bypassedChips 3 = .ok (.istore_n 2, 1) := by decide +kernel
theorem dX0_bypassedChips_4 : decode cX0_bypassedChips 4 = .ok (.iload_n 2, 1) := by decide +kernel
theorem dX0_bypassedChips_5 : decode cX0_bypassedChips 5 = .ok (.aload_n 0, 1) := by decide +kernel
theorem dX0_bypassedChips_6 : decode cX0_bypassedChips 6 = .ok (.getfield 18, 3) := by decide +kernel
theorem dX0_bypassedChips_9 : decode cX0_bypassedChips 9 = .ok (.if_icmp .ge 29, 3) := by decide +kernel
theorem dX0_bypassedChips_12 : decode cX0_bypassedChips 12 = .ok (.iload_n 1, 1) := by decide +kernel
theorem dX0_bypassedChips_13 : decode cX0_bypassedChips 13 = .ok (.aload_n 0, 1) := by decide +kernel
theorem dX0_bypassedChips_14 : decode cX0_bypassedChips 14 = .ok (.getfield 11, 3) := by decide +kernel
theorem dX0_bypassedChips_17 : decode cX0_bypassedChips 17 = .ok (.iload_n 2, 1) := by decide +kernel
theorem dX0_bypassedChips_18 : decode cX0_bypassedChips 18 = .ok (.aaload, 1) := by decide +kernel
theorem dX0_bypassedChips_19 : decode cX0_bypassedChips 19 = .ok (.invokevirtual 52, 3) := by decide +kernel
theorem dX0_bypassedChips_22 : decode cX0_bypassedChips 22 = .ok (.ifCond .eq 7, 3) := by decide +kernel
theorem dX0_bypassedChips_25 : decode cX0_bypassedChips 25 = .ok (.iconst 1, 1) := by decide +kernel
theorem dX0_bypassedChips_26 : decode cX0_bypassedChips 26 = .ok (.goto 4, 3) := by decide +kernel
theorem dX0_bypassedChips_29 : decode cX0_bypassedChips 29 = .ok (.iconst 0, 1) := by decide +kernel
theorem dX0_bypassedChips_30 : decode cX0_bypassedChips 30 = .ok (.iadd, 1) := by decide +kernel
theorem dX0_bypassedChips_31 : decode cX0_bypassedChips 31 = .ok (.istore_n 1, 1) := by decide +kernel
theorem dX0_bypassedChips_32 : decode cX0_bypassedChips 32 = .ok (.iinc 2 1, 3) := by decide +kernel
theorem dX0_bypassedChips_35 : decode cX0_bypassedChips 35 = .ok (.goto (-31), 3) := by decide +kernel
theorem dX0_bypassedChips_38 : decode cX0_bypassedChips 38 = .ok (.iload_n 1, 1) := by decide +kernel
theorem dX0_bypassedChips_39 : decode cX0_bypassedChips 39 = .ok (.ireturn, 1) := by decide +kernel
theorem dX0_sumOfCodeLengths_0 : decode cX0_sumOfCodeLengths 0 = .ok (.iconst 0, 1) := by decide +kernel
theorem dX0_sumOfCodeLengths_1 : decode cX0_sumOfCodeLengths 1 = .ok (.istore_n 1, 1) := by decide +kernel
theorem dX0_sumOfCodeLengths_2 : decode cX0_sumOfCodeLengths 2 = .ok (.iconst 0, 1) := by decide +kernel
theorem dX0_sumOfCodeLengths_3 : decode cX0_sumOfCodeLengths 3 = .ok (.istore_n 2, 1) := by decide +kernel
theorem dX0_sumOfCodeLengths_4 : decode cX0_sumOfCodeLengths 4 = .ok (.iload_n 2, 1) := by decide +kernel
theorem dX0_sumOfCodeLengths_5 : decode cX0_sumOfCodeLengths 5 = .ok (.aload_n 0, 1) := by decide +kernel
theorem dX0_sumOfCodeLengths_6 : decode cX0_sumOfCodeLengths 6 = .ok (.getfield 18, 3) := by decide +kernel
theorem dX0_sumOfCodeLengths_9 : decode cX0_sumOfCodeLengths 9 = .ok (.if_icmp .ge 21, 3) := by decide +kernel
theorem dX0_sumOfCodeLengths_12 : decode cX0_sumOfCodeLengths 12 = .ok (.iload_n 1, 1) := by decide +kernel
theorem dX0_sumOfCodeLengths_13 : decode cX0_sumOfCodeLengths 13 = .ok (.aload_n 0, 1) := by decide +kernel
theorem dX0_sumOfCodeLengths_14 : decode cX0_sumOfCodeLengths 14 = .ok (.getfield 11, 3) := by decide +kernel
theorem dX0_sumOfCodeLengths_17 : decode cX0_sumOfCodeLengths 17 = .ok (.iload_n 2, 1) := by decide +kernel
theorem dX0_sumOfCodeLengths_18 : decode cX0_sumOfCodeLengths 18 = .ok (.aaload, 1) := by decide +kernel
theorem dX0_sumOfCodeLengths_19 : decode cX0_sumOfCodeLengths 19 = .ok (.getfield 56, 3) := by decide +kernel
theorem dX0_sumOfCodeLengths_22 : decode cX0_sumOfCodeLengths 22 = .ok (.iadd, 1) := by decide +kernel
theorem dX0_sumOfCodeLengths_23 : decode cX0_sumOfCodeLengths 23 = .ok (.istore_n 1, 1) := by decide +kernel
theorem dX0_sumOfCodeLengths_24 : decode cX0_sumOfCodeLengths 24 = .ok (.iinc 2 1, 3) := by decide +kernel
theorem dX0_sumOfCodeLengths_27 : decode cX0_sumOfCodeLengths 27 = .ok (.goto (-23), 3) := by decide +kernel
theorem dX0_sumOfCodeLengths_30 : decode cX0_sumOfCodeLengths 30 = .ok (.iload_n 1, 1) := by decide +kernel
theorem dX0_sumOfCodeLengths_31 : decode cX0_sumOfCodeLengths 31 = .ok (.ireturn, 1) := by decide +kernel
theorem dX0_sumOfDataBits_0 : decode cX0_sumOfDataBits 0 = .ok (.iconst 0, 1) := by decide +kernel
theorem dX0_sumOfDataBits_1 : decode cX0_sumOfDataBits 1 = .ok (.istore_n 1, 1) := by decide +kernel
theorem dX0_sumOfDataBits_2 : decode cX0_sumOfDataBits 2 = .ok (.iconst 0, 1) := by decide +kernel
theorem dX0_sumOfDataBits_3 : decode cX0_sumOfDataBits 3 = .ok (.istore_n 2, 1) := by decide +kernel
theorem dX0_sumOfDataBits_4 : decode cX0_sumOfDataBits 4 = .ok (.iload_n 2, 1) := by decide +kernel
theorem dX0_sumOfDataBits_5 : decode cX0_sumOfDataBits 5 = .ok (.aload_n 0, 1) := by decide +kernel
theorem dX0_sumOfDataBits_6 : decode cX0_sumOfDataBits 6 = .ok (.getfield 18, 3) := by decide +kernel
theorem dX0_sumOfDataBits_9 : decode cX0_sumOfDataBits 9 = .ok (.if_icmp .ge 21, 3) := by decide +kernel
theorem dX0_sumOfDataBits_12 : decode cX0_sumOfDataBits 12 = .ok (.iload_n 1, 1) := by decide +kernel
theorem dX0_sumOfDataBits_13 : decode cX0_sumOfDataBits 13 = .ok (.aload_n 0, 1) := by decide +kernel
theorem dX0_sumOfDataBits_14 : decode cX0_sumOfDataBits 14 = .ok (.getfield 11, 3) := by decide +kernel
theorem dX0_sumOfDataBits_17 : decode cX0_sumOfDataBits 17 = .ok (.iload_n 2, 1) := by decide +kernel
theorem dX0_sumOfDataBits_18 : decode cX0_sumOfDataBits 18 = .ok (.aaload, 1) := by decide +kernel
theorem dX0_sumOfDataBits_19 : decode cX0_sumOfDataBits 19 = .ok (.invokevirtual 59, 3) := by decide +kernel
theorem dX0_sumOfDataBits_22 : decode cX0_sumOfDataBits 22 = .ok (.iadd, 1) := by decide +kernel
theorem dX0_sumOfDataBits_23 : decode cX0_sumOfDataBits 23 = .ok (.istore_n 1, 1) := by decide +kernel
theorem dX0_sumOfDataBits_24 : decode cX0_sumOfDataBits 24 = .ok (.iinc 2 1, 3) := by decide +kernel
theorem dX0_sumOfDataBits_27 : decode cX0_sumOfDataBits 27 = .ok (.goto (-23), 3) := by decide +kernel
theorem dX0_sumOfDataBits_30 : decode cX0_sumOfDataBits 30 = .ok (.iload_n 1, 1) := by decide +kernel
theorem dX0_sumOfDataBits_31 : decode cX0_sumOfDataBits 31 = .ok (.ireturn, 1) := by decide +kernel
theorem dX0_forgetIdentities_0 : decode cX0_forgetIdentities 0 = .ok (.aload_n 0, 1) := by decide +kernel
theorem dX0_forgetIdentities_1 : decode cX0_forgetIdentities 1 = .ok (.iconst 0, 1) := by decide +kernel
theorem dX0_forgetIdentities_2 : decode cX0_forgetIdentities 2 = .ok (.putfield 34, 3) := by decide +kernel
theorem dX0_forgetIdentities_5 : decode cX0_forgetIdentities 5 = .ok (.return_, 1) := by decide +kernel
theorem dX0_keepIdentity_0 : decode cX0_keepIdentity 0 = .ok (.aload_n 0, 1) := by decide +kernel
theorem dX0_keepIdentity_1 : decode cX0_keepIdentity 1 = .ok (.getfield 34, 3) := by decide +kernel
theorem dX0_keepIdentity_4 : decode cX0_keepIdentity 4 = .ok (.aload_n 0, 1) := by decide +kernel
theorem dX0_keepIdentity_5 : decode cX0_keepIdentity 5 = .ok (.getfield 30, 3) := by decide +kernel
theorem dX0_keepIdentity_8 : decode cX0_keepIdentity 8 = .ok (.arraylength, 1) := by decide +kernel
theorem dX0_keepIdentity_9 : decode cX0_keepIdentity 9 = .ok (.if_icmp .ge 23, 3) := by decide +kernel
theorem dX0_keepIdentity_12 : decode cX0_keepIdentity 12 = .ok (.aload_n 0, 1) := by decide +kernel
theorem dX0_keepIdentity_13 : decode cX0_keepIdentity 13 = .ok (.getfield 30, 3) := by decide +kernel
theorem dX0_keepIdentity_16 : decode cX0_keepIdentity 16 = .ok (.aload_n 0, 1) := by decide +kernel
theorem dX0_keepIdentity_17 : decode cX0_keepIdentity 17 = .ok (.getfield 34, 3) := by decide +kernel
theorem dX0_keepIdentity_20 : decode cX0_keepIdentity 20 = .ok (.iload_n 1, 1) := by decide +kernel
theorem dX0_keepIdentity_21 : decode cX0_keepIdentity 21 = .ok (.iastore, 1) := by decide +kernel
theorem dX0_keepIdentity_22 : decode cX0_keepIdentity 22 = .ok (.aload_n 0, 1) := by decide +kernel
theorem dX0_keepIdentity_23 : decode cX0_keepIdentity 23 = .ok (.dup, 1) := by decide +kernel
theorem dX0_keepIdentity_24 : decode cX0_keepIdentity 24 = .ok (.getfield 34, 3) := by decide +kernel
theorem dX0_keepIdentity_27 : decode cX0_keepIdentity 27 = .ok (.iconst 1, 1) := by decide +kernel
theorem dX0_keepIdentity_28 : decode cX0_keepIdentity 28 = .ok (.iadd, 1) := by decide +kernel
theorem dX0_keepIdentity_29 : decode cX0_keepIdentity 29 = .ok (.putfield 34, 3) := by decide +kernel
theorem dX0_keepIdentity_32 : decode cX0_keepIdentity 32 = .ok (.return_, 1) := by decide +kernel
theorem dX0_tick_0 : decode cX0_tick 0 = .ok (.aload_n 0, 1) := by decide +kernel
theorem dX0_tick_1 : decode cX0_tick 1 = .ok (.iload_n 2, 1) := by decide +kernel
theorem dX0_tick_2 : decode cX0_tick 2 = .ok (.invokevirtual 63, 3) := by decide +kernel
theorem dX0_tick_5 : decode cX0_tick 5 = .ok (.istore_n 3, 1) := by decide +kernel
theorem dX0_tick_6 : decode cX0_tick 6 = .ok (.aload_n 0, 1) := by decide +kernel
theorem dX0_tick_7 : decode cX0_tick 7 = .ok (.getfield 24, 3) := by decide +kernel
theorem dX0_tick_10 : decode cX0_tick 10 = .ok (.iconst 4, 1) := by decide +kernel
theorem dX0_tick_11 : decode cX0_tick 11 = .ok (.if_icmp .ne 11, 3) := by decide +kernel
theorem dX0_tick_14 : decode cX0_tick 14 = .ok (.aload_n 0, 1) := by decide +kernel
theorem dX0_tick_15 : decode cX0_tick 15 = .ok (.iload_n 2, 1) := by decide +kernel
theorem dX0_tick_16 : decode cX0_tick 16 = .ok (.invokevirtual 67, 3) := by decide +kernel
theorem dX0_tick_19 : decode cX0_tick 19 = .ok (.goto 49, 3) := by decide +kernel
theorem dX0_tick_22 : decode cX0_tick 22 = .ok (.aload_n 0, 1) := by decide +kernel
theorem dX0_tick_23 : decode cX0_tick 23 = .ok (.getfield 24, 3) := by decide +kernel
theorem dX0_tick_26 : decode cX0_tick 26 = .ok (.bipush 11, 2) := by decide +kernel
theorem dX0_tick_28 : decode cX0_tick 28 = .ok (.if_icmp .ne 11, 3) := by decide +kernel
theorem dX0_tick_31 : decode cX0_tick 31 = .ok (.aload_n 0, 1) := by decide +kernel
theorem dX0_tick_32 : decode cX0_tick 32 = .ok (.iload_n 2, 1) := by decide +kernel
theorem dX0_tick_33 : decode cX0_tick 33 = .ok (.invokevirtual 71, 3) := by decide +kernel
theorem dX0_tick_36 : decode cX0_tick 36 = .ok (.goto 32, 3) := by decide +kernel
theorem dX0_tick_39 : decode cX0_tick 39 = .ok (.iconst 0, 1) := by decide +kernel
theorem dX0_tick_40 : decode cX0_tick 40 = .ok (.istore 4, 2) := by decide +kernel
theorem dX0_tick_42 : decode cX0_tick 42 = .ok (.iload 4, 2) := by decide +kernel
theorem dX0_tick_44 : decode cX0_tick 44 = .ok (.aload_n 0, 1) := by decide +kernel
theorem dX0_tick_45 : decode cX0_tick 45 = .ok (.getfield 18, 3) := by decide +kernel
theorem dX0_tick_48 : decode cX0_tick 48 = .ok (.if_icmp .ge 20, 3) := by decide +kernel
theorem dX0_tick_51 : decode cX0_tick 51 = .ok (.aload_n 0, 1) := by decide +kernel
theorem dX0_tick_52 : decode cX0_tick 52 = .ok (.aload_n 0, 1) := by decide +kernel
theorem dX0_tick_53 : decode cX0_tick 53 = .ok (.getfield 11, 3) := by decide +kernel
theorem dX0_tick_56 : decode cX0_tick 56 = .ok (.iload 4, 2) := by decide +kernel
theorem dX0_tick_58 : decode cX0_tick 58 = .ok (.aaload, 1) := by decide +kernel
theorem dX0_tick_59 : decode cX0_tick 59 = .ok (.invokevirtual 74, 3) := by decide +kernel
theorem dX0_tick_62 : decode cX0_tick 62 = .ok (.iinc 4 1, 3) := by decide +kernel
theorem dX0_tick_65 : decode cX0_tick 65 = .ok (.goto (-23), 3) := by decide +kernel
theorem dX0_tick_68 : decode cX0_tick 68 = .ok (.aload_n 0, 1) := by decide +kernel
theorem dX0_tick_69 : decode cX0_tick 69 = .ok (.aload_n 0, 1) := by decide +kernel
theorem dX0_tick_70 : decode cX0_tick 70 = .ok (.getfield 24, 3) := by decide +kernel
theorem dX0_tick_73 : decode cX0_tick 73 = .ok (.iload_n 1, 1) := by decide +kernel
theorem dX0_tick_74 : decode cX0_tick 74 = .ok (.invokestatic 77, 3) := by decide +kernel
theorem dX0_tick_77 : decode cX0_tick 77 = .ok (.putfield 24, 3) := by decide +kernel
theorem dX0_tick_80 : decode cX0_tick 80 = .ok (.aload_n 0, 1) := by decide +kernel
theorem dX0_tick_81 : decode cX0_tick 81 = .ok (.dup, 1) := by decide +kernel
theorem dX0_tick_82 : decode cX0_tick 82 = .ok (.getfield 27, 3) := by decide +kernel
theorem dX0_tick_85 : decode cX0_tick 85 = .ok (.iconst 1, 1) := by decide +kernel
theorem dX0_tick_86 : decode cX0_tick 86 = .ok (.iadd, 1) := by decide +kernel
theorem dX0_tick_87 : decode cX0_tick 87 = .ok (.putfield 27, 3) := by decide +kernel
theorem dX0_tick_90 : decode cX0_tick 90 = .ok (.iload_n 3, 1) := by decide +kernel
theorem dX0_tick_91 : decode cX0_tick 91 = .ok (.ireturn, 1) := by decide +kernel
theorem dX0_outputWith_0 : decode cX0_outputWith 0 = .ok (.aload_n 0, 1) := by decide +kernel
theorem dX0_outputWith_1 : decode cX0_outputWith 1 = .ok (.getfield 24, 3) := by decide +kernel
theorem dX0_outputWith_4 : decode cX0_outputWith 4 = .ok (.iconst 4, 1) := by decide +kernel
theorem dX0_outputWith_5 : decode cX0_outputWith 5 = .ok (.if_icmp .eq 14, 3) := by decide +kernel
theorem dX0_outputWith_8 : decode cX0_outputWith 8 = .ok (.aload_n 0, 1) := by decide +kernel
theorem dX0_outputWith_9 : decode cX0_outputWith 9 = .ok (.getfield 24, 3) := by decide +kernel
theorem dX0_outputWith_12 : decode cX0_outputWith 12 = .ok (.bipush 11, 2) := by decide +kernel
theorem dX0_outputWith_14 : decode cX0_outputWith 14 = .ok (.if_icmp .eq 5, 3) := by decide +kernel
theorem dX0_outputWith_17 : decode cX0_outputWith 17 = .ok (.iconst 1, 1) := by decide +kernel
theorem dX0_outputWith_18 : decode cX0_outputWith 18 = .ok (.ireturn, 1) := by decide +kernel
theorem dX0_outputWith_19 : decode cX0_outputWith 19 = .ok (.aload_n 0, 1) := by decide +kernel
theorem dX0_outputWith_20 : decode cX0_outputWith 20 = .ok (.getfield 18, 3) := by decide +kernel
theorem dX0_outputWith_23 : decode cX0_outputWith 23 = .ok (.ifCond .gt 5, 3) := by decide +kernel
theorem dX0_outputWith_26 : decode cX0_outputWith 26 = .ok (.iload_n 1, 1) := by decide +kernel
theorem dX0_outputWith_27 : decode cX0_outputWith 27 = .ok (.ireturn, 1) := by decide +kernel
theorem dX0_outputWith_28 : decode cX0_outputWith 28 = .ok (.aload_n 0, 1) := by decide +kernel
theorem dX0_outputWith_29 : decode cX0_outputWith 29 = .ok (.getfield 11, 3) := by decide +kernel
theorem dX0_outputWith_32 : decode cX0_outputWith 32 = .ok (.aload_n 0, 1) := by decide +kernel
theorem dX0_outputWith_33 : decode cX0_outputWith 33 = .ok (.getfield 18, 3) := by decide +kernel
theorem dX0_outputWith_36 : decode cX0_outputWith 36 = .ok (.iconst 1, 1) := by decide +kernel
theorem dX0_outputWith_37 : decode cX0_outputWith 37 = .ok (.isub, 1) := by decide +kernel
theorem dX0_outputWith_38 : decode cX0_outputWith 38 = .ok (.aaload, 1) := by decide +kernel
theorem dX0_outputWith_39 : decode cX0_outputWith 39 = .ok (.astore_n 2, 1) := by decide +kernel
theorem dX0_outputWith_40 : decode cX0_outputWith 40 = .ok (.aload_n 0, 1) := by decide +kernel
theorem dX0_outputWith_41 : decode cX0_outputWith 41 = .ok (.getfield 24, 3) := by decide +kernel
theorem dX0_outputWith_44 : decode cX0_outputWith 44 = .ok (.iconst 4, 1) := by decide +kernel
theorem dX0_outputWith_45 : decode cX0_outputWith 45 = .ok (.if_icmp .ne 10, 3) := by decide +kernel
theorem dX0_outputWith_48 : decode cX0_outputWith 48 = .ok (.aload_n 2, 1) := by decide +kernel
theorem dX0_outputWith_49 : decode cX0_outputWith 49 = .ok (.invokevirtual 81, 3) := by decide +kernel
theorem dX0_outputWith_52 : decode cX0_outputWith 52 = .ok (.goto 7, 3) := by decide +kernel
theorem dX0_outputWith_55 : decode cX0_outputWith 55 = .ok (.aload_n 2, 1) := by decide +kernel
theorem dX0_outputWith_56 : decode cX0_outputWith 56 = .ok (.invokevirtual 84, 3) := by decide +kernel
theorem dX0_outputWith_59 : decode cX0_outputWith 59 = .ok (.ireturn, 1) := by decide +kernel
theorem dX0_workOf_0 : decode cX0_workOf 0 = .ok (.aload_n 0, 1) := by decide +kernel
theorem dX0_workOf_1 : decode cX0_workOf 1 = .ok (.getfield 24, 3) := by decide +kernel
theorem dX0_workOf_4 : decode cX0_workOf 4 = .ok (.lookupswitch 92 #[(0, 52), (3, 59), (8, 66), (10, 73), (15, 81)], 52) := by decide +kernel
theorem dX0_workOf_56 : decode cX0_workOf 56 = .ok (.aload_n 1, 1) := by decide +kernel
theorem dX0_workOf_57 : decode cX0_workOf 57 = .ok (.invokevirtual 87, 3) := by decide +kernel
theorem dX0_workOf_60 : decode cX0_workOf 60 = .ok (.goto 36, 3) := by decide +kernel
theorem dX0_workOf_63 : decode cX0_workOf 63 = .ok (.aload_n 1, 1) := by decide +kernel
theorem dX0_workOf_64 : decode cX0_workOf 64 = .ok (.invokevirtual 90, 3) := by decide +kernel
theorem dX0_workOf_67 : decode cX0_workOf 67 = .ok (.goto 29, 3) := by decide +kernel
theorem dX0_workOf_70 : decode cX0_workOf 70 = .ok (.aload_n 1, 1) := by decide +kernel
theorem dX0_workOf_71 : decode cX0_workOf 71 = .ok (.invokevirtual 93, 3) := by decide +kernel
theorem dX0_workOf_74 : decode cX0_workOf 74 = .ok (.goto 22, 3) := by decide +kernel
theorem dX0_workOf_77 : decode cX0_workOf 77 = .ok (.aload_n 1, 1) := by decide +kernel
theorem dX0_workOf_78 : decode cX0_workOf 78 = .ok (.iconst 1, 1) := by decide +kernel
theorem dX0_workOf_79 : decode cX0_workOf 79 = .ok (.putfield 96, 3) := by decide +kernel
theorem dX0_workOf_82 : decode cX0_workOf 82 = .ok (.goto 14, 3) := by decide +kernel
theorem dX0_workOf_85 : decode cX0_workOf 85 = .ok (.aload_n 1, 1) := by decide +kernel
theorem dX0_workOf_86 : decode cX0_workOf 86 = .ok (.aload_n 1, 1) := by decide +kernel
theorem dX0_workOf_87 : decode cX0_workOf 87 = .ok (.getfield 96, 3) := by decide +kernel
theorem dX0_workOf_90 : decode cX0_workOf 90 = .ok (.invokevirtual 99, 3) := by decide +kernel
theorem dX0_workOf_93 : decode cX0_workOf 93 = .ok (.goto 3, 3) := by decide +kernel
theorem dX0_workOf_96 : decode cX0_workOf 96 = .ok (.return_, 1) := by decide +kernel
theorem dX0_shiftAllData_0 : decode cX0_shiftAllData 0 = .ok (.iload_n 1, 1) := by decide +kernel
theorem dX0_shiftAllData_1 : decode cX0_shiftAllData 1 = .ok (.istore_n 2, 1) := by decide +kernel
theorem dX0_shiftAllData_2 : decode cX0_shiftAllData 2 = .ok (.iconst 0, 1) := by decide +kernel
theorem dX0_shiftAllData_3 : decode cX0_shiftAllData 3 = .ok (.istore_n 3, 1) := by decide +kernel
theorem dX0_shiftAllData_4 : decode cX0_shiftAllData 4 = .ok (.iload_n 3, 1) := by decide +kernel
theorem dX0_shiftAllData_5 : decode cX0_shiftAllData 5 = .ok (.aload_n 0, 1) := by decide +kernel
theorem dX0_shiftAllData_6 : decode cX0_shiftAllData 6 = .ok (.getfield 18, 3) := by decide +kernel
theorem dX0_shiftAllData_9 : decode cX0_shiftAllData 9 = .ok (.if_icmp .ge 33, 3) := by decide +kernel
theorem dX0_shiftAllData_12 : decode cX0_shiftAllData 12 = .ok (.aload_n 0, 1) := by decide +kernel
theorem dX0_shiftAllData_13 : decode cX0_shiftAllData 13 = .ok (.getfield 11, 3) := by decide +kernel
theorem dX0_shiftAllData_16 : decode cX0_shiftAllData 16 = .ok (.iload_n 3, 1) := by decide +kernel
theorem dX0_shiftAllData_17 : decode cX0_shiftAllData 17 = .ok (.aaload, 1) := by decide +kernel
theorem dX0_shiftAllData_18 : decode cX0_shiftAllData 18 = .ok (.invokevirtual 81, 3) := by decide +kernel
theorem dX0_shiftAllData_21 : decode cX0_shiftAllData 21 = .ok (.istore 4, 2) := by decide +kernel
theorem dX0_shiftAllData_23 : decode cX0_shiftAllData 23 = .ok (.aload_n 0, 1) := by decide +kernel
theorem dX0_shiftAllData_24 : decode cX0_shiftAllData 24 = .ok (.getfield 11, 3) := by decide +kernel
theorem dX0_shiftAllData_27 : decode cX0_shiftAllData 27 = .ok (.iload_n 3, 1) := by decide +kernel
theorem dX0_shiftAllData_28 : decode cX0_shiftAllData 28 = .ok (.aaload, 1) := by decide +kernel
theorem dX0_shiftAllData_29 : decode cX0_shiftAllData 29 = .ok (.iload_n 2, 1) := by decide +kernel
theorem dX0_shiftAllData_30 : decode cX0_shiftAllData 30 = .ok (.invokevirtual 102, 3) := by decide +kernel
theorem dX0_shiftAllData_33 : decode cX0_shiftAllData 33 = .ok (.iload 4, 2) := by decide +kernel
theorem dX0_shiftAllData_35 : decode cX0_shiftAllData 35 = .ok (.istore_n 2, 1) := by decide +kernel
theorem dX0_shiftAllData_36 : decode cX0_shiftAllData 36 = .ok (.iinc 3 1, 3) := by decide +kernel
theorem dX0_shiftAllData_39 : decode cX0_shiftAllData 39 = .ok (.goto (-35), 3) := by decide +kernel
theorem dX0_shiftAllData_42 : decode cX0_shiftAllData 42 = .ok (.return_, 1) := by decide +kernel
theorem dX0_shiftAllCodes_0 : decode cX0_shiftAllCodes 0 = .ok (.iload_n 1, 1) := by decide +kernel
theorem dX0_shiftAllCodes_1 : decode cX0_shiftAllCodes 1 = .ok (.istore_n 2, 1) := by decide +kernel
theorem dX0_shiftAllCodes_2 : decode cX0_shiftAllCodes 2 = .ok (.iconst 0, 1) := by decide +kernel
theorem dX0_shiftAllCodes_3 : decode cX0_shiftAllCodes 3 = .ok (.istore_n 3, 1) := by decide +kernel
theorem dX0_shiftAllCodes_4 : decode cX0_shiftAllCodes 4 = .ok (.iload_n 3, 1) := by decide +kernel
theorem dX0_shiftAllCodes_5 : decode cX0_shiftAllCodes 5 = .ok (.aload_n 0, 1) := by decide +kernel
theorem dX0_shiftAllCodes_6 : decode cX0_shiftAllCodes 6 = .ok (.getfield 18, 3) := by decide +kernel
theorem dX0_shiftAllCodes_9 : decode cX0_shiftAllCodes 9 = .ok (.if_icmp .ge 33, 3) := by decide +kernel
theorem dX0_shiftAllCodes_12 : decode cX0_shiftAllCodes 12 = .ok (.aload_n 0, 1) := by decide +kernel
theorem dX0_shiftAllCodes_13 : decode cX0_shiftAllCodes 13 = .ok (.getfield 11, 3) := by decide +kernel
theorem dX0_shiftAllCodes_16 : decode cX0_shiftAllCodes 16 = .ok (.iload_n 3, 1) := by decide +kernel
theorem dX0_shiftAllCodes_17 : decode cX0_shiftAllCodes 17 = .ok (.aaload, 1) := by decide +kernel
theorem dX0_shiftAllCodes_18 : decode cX0_shiftAllCodes 18 = .ok (.invokevirtual 84, 3) := by decide +kernel
theorem dX0_shiftAllCodes_21 : decode cX0_shiftAllCodes 21 = .ok (.istore 4, 2) := by decide +kernel
theorem dX0_shiftAllCodes_23 : decode cX0_shiftAllCodes 23 = .ok (.aload_n 0, 1) := by decide +kernel
theorem dX0_shiftAllCodes_24 : decode cX0_shiftAllCodes 24 = .ok (.getfield 11, 3) := by decide +kernel
theorem dX0_shiftAllCodes_27 : decode cX0_shiftAllCodes 27 = .ok (.iload_n 3, 1) := by decide +kernel
theorem dX0_shiftAllCodes_28 : decode cX0_shiftAllCodes 28 = .ok (.aaload, 1) := by decide +kernel
theorem dX0_shiftAllCodes_29 : decode cX0_shiftAllCodes 29 = .ok (.iload_n 2, 1) := by decide +kernel
theorem dX0_shiftAllCodes_30 : decode cX0_shiftAllCodes 30 = .ok (.invokevirtual 105, 3) := by decide +kernel
theorem dX0_shiftAllCodes_33 : decode cX0_shiftAllCodes 33 = .ok (.iload 4, 2) := by decide +kernel
theorem dX0_shiftAllCodes_35 : decode cX0_shiftAllCodes 35 = .ok (.istore_n 2, 1) := by decide +kernel
theorem dX0_shiftAllCodes_36 : decode cX0_shiftAllCodes 36 = .ok (.iinc 3 1, 3) := by decide +kernel
theorem dX0_shiftAllCodes_39 : decode cX0_shiftAllCodes 39 = .ok (.goto (-35), 3) := by decide +kernel
theorem dX0_shiftAllCodes_42 : decode cX0_shiftAllCodes 42 = .ok (.return_, 1) := by decide +kernel
theorem dX1_init_0 : decode cX1_init 0 = .ok (.aload_n 0, 1) := by decide +kernel
theorem dX1_init_1 : decode cX1_init 1 = .ok (.invokespecial 3, 3) := by decide +kernel
theorem dX1_init_4 : decode cX1_init 4 = .ok (.return_, 1) := by decide +kernel
theorem dX1_beNew_0 : decode cX1_beNew 0 = .ok (.aload_n 0, 1) := by decide +kernel
theorem dX1_beNew_1 : decode cX1_beNew 1 = .ok (.iload_n 1, 1) := by decide +kernel
theorem dX1_beNew_2 : decode cX1_beNew 2 = .ok (.putfield 9, 3) := by decide +kernel
theorem dX1_beNew_5 : decode cX1_beNew 5 = .ok (.aload_n 0, 1) := by decide +kernel
theorem dX1_beNew_6 : decode cX1_beNew 6 = .ok (.iload_n 2, 1) := by decide +kernel
theorem dX1_beNew_7 : decode cX1_beNew 7 = .ok (.putfield 15, 3) := by decide +kernel
theorem dX1_beNew_10 : decode cX1_beNew 10 = .ok (.aload_n 0, 1) := by decide +kernel
theorem dX1_beNew_11 : decode cX1_beNew 11 = .ok (.iload_n 3, 1) := by decide +kernel
theorem dX1_beNew_12 : decode cX1_beNew 12 = .ok (.putfield 18, 3) := by decide +kernel
theorem dX1_beNew_15 : decode cX1_beNew 15 = .ok (.aload_n 0, 1) := by decide +kernel
theorem dX1_beNew_16 : decode cX1_beNew 16 = .ok (.iconst 0, 1) := by decide +kernel
theorem dX1_beNew_17 : decode cX1_beNew 17 = .ok (.putfield 21, 3) := by decide +kernel
theorem dX1_beNew_20 : decode cX1_beNew 20 = .ok (.aload_n 0, 1) := by decide +kernel
theorem dX1_beNew_21 : decode cX1_beNew 21 = .ok (.iconst 0, 1) := by decide +kernel
theorem dX1_beNew_22 : decode cX1_beNew 22 = .ok (.putfield 24, 3) := by decide +kernel
theorem dX1_beNew_25 : decode cX1_beNew 25 = .ok (.aload_n 0, 1) := by decide +kernel
theorem dX1_beNew_26 : decode cX1_beNew 26 = .ok (.iconst 0, 1) := by decide +kernel
theorem dX1_beNew_27 : decode cX1_beNew 27 = .ok (.putfield 27, 3) := by decide +kernel
theorem dX1_beNew_30 : decode cX1_beNew 30 = .ok (.aload_n 0, 1) := by decide +kernel
theorem dX1_beNew_31 : decode cX1_beNew 31 = .ok (.iconst 0, 1) := by decide +kernel
theorem dX1_beNew_32 : decode cX1_beNew 32 = .ok (.putfield 31, 3) := by decide +kernel
theorem dX1_beNew_35 : decode cX1_beNew 35 = .ok (.aload_n 0, 1) := by decide +kernel
theorem dX1_beNew_36 : decode cX1_beNew 36 = .ok (.invokevirtual 34, 3) := by decide +kernel
theorem dX1_beNew_39 : decode cX1_beNew 39 = .ok (.return_, 1) := by decide +kernel
theorem dX1_becomeCopyOf_0 : decode cX1_becomeCopyOf 0 = .ok (.aload_n 0, 1) := by decide +kernel
theorem dX1_becomeCopyOf_1 : decode cX1_becomeCopyOf 1 = .ok (.aload_n 1, 1) := by decide +kernel
theorem dX1_becomeCopyOf_2 : decode cX1_becomeCopyOf 2 = .ok (.getfield 9, 3) := by decide +kernel
theorem dX1_becomeCopyOf_5 : decode cX1_becomeCopyOf 5 = .ok (.putfield 9, 3) := by decide +kernel
theorem dX1_becomeCopyOf_8 : decode cX1_becomeCopyOf 8 = .ok (.aload_n 0, 1) := by decide +kernel
theorem dX1_becomeCopyOf_9 : decode cX1_becomeCopyOf 9 = .ok (.aload_n 1, 1) := by decide +kernel
theorem dX1_becomeCopyOf_10 : decode cX1_becomeCopyOf 10 = .ok (.getfield 15, 3) := by decide +kernel
theorem dX1_becomeCopyOf_13 : decode cX1_becomeCopyOf 13 = .ok (.putfield 15, 3) := by decide +kernel
theorem dX1_becomeCopyOf_16 : decode cX1_becomeCopyOf 16 = .ok (.aload_n 0, 1) := by decide +kernel
theorem dX1_becomeCopyOf_17 : decode cX1_becomeCopyOf 17 = .ok (.aload_n 1, 1) := by decide +kernel
theorem dX1_becomeCopyOf_18 : decode cX1_becomeCopyOf 18 = .ok (.getfield 18, 3) := by decide +kernel
theorem dX1_becomeCopyOf_21 : decode cX1_becomeCopyOf 21 = .ok (.putfield 18, 3) := by decide +kernel
theorem dX1_becomeCopyOf_24 : decode cX1_becomeCopyOf 24 = .ok (.aload_n 0, 1) := by decide +kernel
theorem dX1_becomeCopyOf_25 : decode cX1_becomeCopyOf 25 = .ok (.aload_n 1, 1) := by decide +kernel
theorem dX1_becomeCopyOf_26 : decode cX1_becomeCopyOf 26 = .ok (.getfield 21, 3) := by decide +kernel
theorem dX1_becomeCopyOf_29 : decode cX1_becomeCopyOf 29 = .ok (.putfield 21, 3) := by decide +kernel
theorem dX1_becomeCopyOf_32 : decode cX1_becomeCopyOf 32 = .ok (.aload_n 0, 1) := by decide +kernel
theorem dX1_becomeCopyOf_33 : decode cX1_becomeCopyOf 33 = .ok (.aload_n 1, 1) := by decide +kernel
theorem dX1_becomeCopyOf_34 : decode cX1_becomeCopyOf 34 = .ok (.getfield 24, 3) := by decide +kernel
theorem dX1_becomeCopyOf_37 : decode cX1_becomeCopyOf 37 = .ok (.putfield 24, 3) := by decide +kernel
theorem dX1_becomeCopyOf_40 : decode cX1_becomeCopyOf 40 = .ok (.aload_n 0, 1) := by decide +kernel
theorem dX1_becomeCopyOf_41 : decode cX1_becomeCopyOf 41 = .ok (.aload_n 1, 1) := by decide +kernel
theorem dX1_becomeCopyOf_42 : decode cX1_becomeCopyOf 42 = .ok (.getfield 27, 3) := by decide +kernel
theorem dX1_becomeCopyOf_45 : decode cX1_becomeCopyOf 45 = .ok (.putfield 27, 3) := by decide +kernel
theorem dX1_becomeCopyOf_48 : decode cX1_becomeCopyOf 48 = .ok (.aload_n 0, 1) := by decide +kernel
theorem dX1_becomeCopyOf_49 : decode cX1_becomeCopyOf 49 = .ok (.aload_n 1, 1) := by decide +kernel
theorem dX1_becomeCopyOf_50 : decode cX1_becomeCopyOf 50 = .ok (.getfield 37, 3) := by decide +kernel
theorem dX1_becomeCopyOf_53 : decode cX1_becomeCopyOf 53 = .ok (.putfield 37, 3) := by decide +kernel
theorem dX1_becomeCopyOf_56 : decode cX1_becomeCopyOf 56 = .ok (.aload_n 0, 1) := by decide +kernel
theorem dX1_becomeCopyOf_57 : decode cX1_becomeCopyOf 57 = .ok (.aload_n 1, 1) := by decide +kernel
theorem dX1_becomeCopyOf_58 : decode cX1_becomeCopyOf 58 = .ok (.getfield 31, 3) := by decide +kernel
theorem dX1_becomeCopyOf_61 : decode cX1_becomeCopyOf 61 = .ok (.putfield 31, 3) := by decide +kernel
theorem dX1_becomeCopyOf_64 : decode cX1_becomeCopyOf 64 = .ok (.aload_n 0, 1) := by decide +kernel
theorem dX1_becomeCopyOf_65 : decode cX1_becomeCopyOf 65 = .ok (.aload_n 1, 1) := by decide +kernel
theorem dX1_becomeCopyOf_66 : decode cX1_becomeCopyOf 66 = .ok (.getfield 40, 3) := by decide +kernel
theorem dX1_becomeCopyOf_69 : decode cX1_becomeCopyOf 69 = .ok (.putfield 40, 3) := by decide +kernel
theorem dX1_becomeCopyOf_72 : decode cX1_becomeCopyOf 72 = .ok (.return_, 1) := by decide +kernel
theorem dX1_changePins_0 : decode cX1_changePins 0 = .ok (.aload_n 0, 1) := by decide +kernel
theorem dX1_changePins_1 : decode cX1_changePins 1 = .ok (.getfield 21, 3) := by decide +kernel
theorem dX1_changePins_4 : decode cX1_changePins 4 = .ok (.istore_n 2, 1) := by decide +kernel
theorem dX1_changePins_5 : decode cX1_changePins 5 = .ok (.aload_n 0, 1) := by decide +kernel
theorem dX1_changePins_6 : decode cX1_changePins 6 = .ok (.iload_n 1, 1) := by decide +kernel
theorem dX1_changePins_7 : decode cX1_changePins 7 = .ok (.aload_n 0, 1) := by decide +kernel
theorem dX1_changePins_8 : decode cX1_changePins 8 = .ok (.getfield 18, 3) := by decide +kernel
theorem dX1_changePins_11 : decode cX1_changePins 11 = .ok (.invokestatic 43, 3) := by decide +kernel
theorem dX1_changePins_14 : decode cX1_changePins 14 = .ok (.iand, 1) := by decide +kernel
theorem dX1_changePins_15 : decode cX1_changePins 15 = .ok (.putfield 21, 3) := by decide +kernel
theorem dX1_changePins_18 : decode cX1_changePins 18 = .ok (.iload_n 2, 1) := by decide +kernel
theorem dX1_changePins_19 : decode cX1_changePins 19 = .ok (.ireturn, 1) := by decide +kernel
theorem dX1_selectsCells_0 : decode cX1_selectsCells 0 = .ok (.aload_n 0, 1) := by decide +kernel
theorem dX1_selectsCells_1 : decode cX1_selectsCells 1 = .ok (.getfield 37, 3) := by decide +kernel
theorem dX1_selectsCells_4 : decode cX1_selectsCells 4 = .ok (.ifCond .eq 11, 3) := by decide +kernel
theorem dX1_selectsCells_7 : decode cX1_selectsCells 7 = .ok (.aload_n 0, 1) := by decide +kernel
theorem dX1_selectsCells_8 : decode cX1_selectsCells 8 = .ok (.getfield 37, 3) := by decide +kernel
theorem dX1_selectsCells_11 : decode cX1_selectsCells 11 = .ok (.iconst 2, 1) := by decide +kernel
theorem dX1_selectsCells_12 : decode cX1_selectsCells 12 = .ok (.if_icmp .ne 7, 3) := by decide +kernel
theorem dX1_selectsCells_15 : decode cX1_selectsCells 15 = .ok (.iconst 1, 1) := by decide +kernel
theorem dX1_selectsCells_16 : decode cX1_selectsCells 16 = .ok (.goto 4, 3) := by decide +kernel
theorem dX1_selectsCells_19 : decode cX1_selectsCells 19 = .ok (.iconst 0, 1) := by decide +kernel
theorem dX1_selectsCells_20 : decode cX1_selectsCells 20 = .ok (.ireturn, 1) := by decide +kernel
theorem dX1_selectsIdentity_0 : decode cX1_selectsIdentity 0 = .ok (.aload_n 0, 1) := by decide +kernel
theorem dX1_selectsIdentity_1 : decode cX1_selectsIdentity 1 = .ok (.getfield 37, 3) := by decide +kernel
theorem dX1_selectsIdentity_4 : decode cX1_selectsIdentity 4 = .ok (.iconst 1, 1) := by decide +kernel
theorem dX1_selectsIdentity_5 : decode cX1_selectsIdentity 5 = .ok (.if_icmp .ne 14, 3) := by decide +kernel
theorem dX1_selectsIdentity_8 : decode cX1_selectsIdentity 8 = .ok (.aload_n 0, 1) := by decide +kernel
theorem dX1_selectsIdentity_9 : decode cX1_selectsIdentity 9 = .ok (.getfield 15, 3) := by decide +kernel
theorem dX1_selectsIdentity_12 : decode cX1_selectsIdentity 12 = .ok (.ifCond .eq 7, 3) := by decide +kernel
theorem dX1_selectsIdentity_15 : decode cX1_selectsIdentity 15 = .ok (.iconst 1, 1) := by decide +kernel
theorem dX1_selectsIdentity_16 : decode cX1_selectsIdentity 16 = .ok (.goto 4, 3) := by decide +kernel
theorem dX1_selectsIdentity_19 : decode cX1_selectsIdentity 19 = .ok (.iconst 0, 1) := by decide +kernel
theorem dX1_selectsIdentity_20 : decode cX1_selectsIdentity 20 = .ok (.ireturn, 1) := by decide +kernel
theorem dX1_selectsBypass_0 : decode cX1_selectsBypass 0 = .ok (.aload_n 0, 1) := by decide +kernel
theorem dX1_selectsBypass_1 : decode cX1_selectsBypass 1 = .ok (.invokevirtual 47, 3) := by decide +kernel
theorem dX1_selectsBypass_4 : decode cX1_selectsBypass 4 = .ok (.ifCond .ne 14, 3) := by decide +kernel
theorem dX1_selectsBypass_7 : decode cX1_selectsBypass 7 = .ok (.aload_n 0, 1) := by decide +kernel
theorem dX1_selectsBypass_8 : decode cX1_selectsBypass 8 = .ok (.invokevirtual 51, 3) := by decide +kernel
theorem dX1_selectsBypass_11 : decode cX1_selectsBypass 11 = .ok (.ifCond .ne 7, 3) := by decide +kernel
theorem dX1_selectsBypass_14 : decode cX1_selectsBypass 14 = .ok (.iconst 1, 1) := by decide +kernel
theorem dX1_selectsBypass_15 : decode cX1_selectsBypass 15 = .ok (.goto 4, 3) := by decide +kernel
theorem dX1_selectsBypass_18 : decode cX1_selectsBypass 18 = .ok (.iconst 0, 1) := by decide +kernel
theorem dX1_selectsBypass_19 : decode cX1_selectsBypass 19 = .ok (.ireturn, 1) := by decide +kernel
theorem dX1_dataBits_0 : decode cX1_dataBits 0 = .ok (.aload_n 0, 1) := by decide +kernel
theorem dX1_dataBits_1 : decode cX1_dataBits 1 = .ok (.invokevirtual 47, 3) := by decide +kernel
theorem dX1_dataBits_4 : decode cX1_dataBits 4 = .ok (.ifCond .eq 8, 3) := by decide +kernel
theorem dX1_dataBits_7 : decode cX1_dataBits 7 = .ok (.aload_n 0, 1) := by decide +kernel
theorem dX1_dataBits_8 : decode cX1_dataBits 8 = .ok (.getfield 18, 3) := by decide +kernel
theorem dX1_dataBits_11 : decode cX1_dataBits 11 = .ok (.ireturn, 1) := by decide +kernel
theorem dX1_dataBits_12 : decode cX1_dataBits 12 = .ok (.aload_n 0, 1) := by decide +kernel
theorem dX1_dataBits_13 : decode cX1_dataBits 13 = .ok (.invokevirtual 51, 3) := by decide +kernel
theorem dX1_dataBits_16 : decode cX1_dataBits 16 = .ok (.ifCond .eq 8, 3) := by decide +kernel
theorem dX1_dataBits_19 : decode cX1_dataBits 19 = .ok (.bipush 8, 2) := by decide +kernel
theorem dX1_dataBits_21 : decode cX1_dataBits 21 = .ok (.goto 4, 3) := by decide +kernel
theorem dX1_dataBits_24 : decode cX1_dataBits 24 = .ok (.iconst 1, 1) := by decide +kernel
theorem dX1_dataBits_25 : decode cX1_dataBits 25 = .ok (.ireturn, 1) := by decide +kernel
theorem dX1_giveInstruction_0 : decode cX1_giveInstruction 0 = .ok (.aload_n 0, 1) := by decide +kernel
theorem dX1_giveInstruction_1 : decode cX1_giveInstruction 1 = .ok (.iload_n 1, 1) := by decide +kernel
theorem dX1_giveInstruction_2 : decode cX1_giveInstruction 2 = .ok (.putfield 37, 3) := by decide +kernel
theorem dX1_giveInstruction_5 : decode cX1_giveInstruction 5 = .ok (.aload_n 0, 1) := by decide +kernel
theorem dX1_giveInstruction_6 : decode cX1_giveInstruction 6 = .ok (.iconst 0, 1) := by decide +kernel
theorem dX1_giveInstruction_7 : decode cX1_giveInstruction 7 = .ok (.putfield 40, 3) := by decide +kernel
theorem dX1_giveInstruction_10 : decode cX1_giveInstruction 10 = .ok (.return_, 1) := by decide +kernel
theorem dX1_giveFirstInstruction_0 : decode cX1_giveFirstInstruction 0 = .ok (.aload_n 0, 1) := by decide +kernel
theorem dX1_giveFirstInstruction_1 : decode cX1_giveFirstInstruction 1 = .ok (.aload_n 0, 1) := by decide +kernel
theorem dX1_giveFirstInstruction_2 : decode cX1_giveFirstInstruction 2 = .ok (.getfield 15, 3) := by decide +kernel
theorem dX1_giveFirstInstruction_5 : decode cX1_giveFirstInstruction 5 = .ok (.ifCond .eq 7, 3) := by decide +kernel
theorem dX1_giveFirstInstruction_8 : decode cX1_giveFirstInstruction 8 = .ok (.iconst 1, 1) := by decide +kernel
theorem dX1_giveFirstInstruction_9 : decode cX1_giveFirstInstruction 9 = .ok (.goto 10, 3) := by decide +kernel
theorem dX1_giveFirstInstruction_12 : decode cX1_giveFirstInstruction 12 = .ok (.aload_n 0, 1) := by decide +kernel
theorem dX1_giveFirstInstruction_13 : decode cX1_giveFirstInstruction 13 = .ok (.getfield 9, 3) := by decide +kernel
theorem dX1_giveFirstInstruction_16 : decode cX1_giveFirstInstruction 16 = .ok (.invokestatic 43, 3) := by decide +kernel
theorem dX1_giveFirstInstruction_19 : decode cX1_giveFirstInstruction 19 = .ok (.invokevirtual 54, 3) := by decide +kernel
theorem dX1_giveFirstInstruction_22 : decode cX1_giveFirstInstruction 22 = .ok (.return_, 1) := by decide +kernel
theorem dX1_captureData_0 : decode cX1_captureData 0 = .ok (.aload_n 0, 1) := by decide +kernel
theorem dX1_captureData_1 : decode cX1_captureData 1 = .ok (.invokevirtual 47, 3) := by decide +kernel
theorem dX1_captureData_4 : decode cX1_captureData 4 = .ok (.ifCond .eq 14, 3) := by decide +kernel
theorem dX1_captureData_7 : decode cX1_captureData 7 = .ok (.aload_n 0, 1) := by decide +kernel
theorem dX1_captureData_8 : decode cX1_captureData 8 = .ok (.aload_n 0, 1) := by decide +kernel
theorem dX1_captureData_9 : decode cX1_captureData 9 = .ok (.getfield 21, 3) := by decide +kernel
theorem dX1_captureData_12 : decode cX1_captureData 12 = .ok (.putfield 40, 3) := by decide +kernel
theorem dX1_captureData_15 : decode cX1_captureData 15 = .ok (.goto 22, 3) := by decide +kernel
theorem dX1_captureData_18 : decode cX1_captureData 18 = .ok (.aload_n 0, 1) := by decide +kernel
theorem dX1_captureData_19 : decode cX1_captureData 19 = .ok (.aload_n 0, 1) := by decide +kernel
theorem dX1_captureData_20 : decode cX1_captureData 20 = .ok (.invokevirtual 51, 3) := by decide +kernel
theorem dX1_captureData_23 : decode cX1_captureData 23 = .ok (.ifCond .eq 10, 3) := by decide +kernel
theorem dX1_captureData_26 : decode cX1_captureData 26 = .ok (.aload_n 0, 1) := by decide +kernel
theorem dX1_captureData_27 : decode cX1_captureData 27 = .ok (.getfield 15, 3) := by decide +kernel
theorem dX1_captureData_30 : decode cX1_captureData 30 = .ok (.goto 4, 3) := by decide +kernel
theorem dX1_captureData_33 : decode cX1_captureData 33 = .ok (.iconst 0, 1) := by decide +kernel
theorem dX1_captureData_34 : decode cX1_captureData 34 = .ok (.putfield 40, 3) := by decide +kernel
theorem dX1_captureData_37 : decode cX1_captureData 37 = .ok (.return_, 1) := by decide +kernel
theorem dX1_updateData_0 : decode cX1_updateData 0 = .ok (.aload_n 0, 1) := by decide +kernel
theorem dX1_updateData_1 : decode cX1_updateData 1 = .ok (.getfield 37, 3) := by decide +kernel
theorem dX1_updateData_4 : decode cX1_updateData 4 = .ok (.ifCond .ne 11, 3) := by decide +kernel
theorem dX1_updateData_7 : decode cX1_updateData 7 = .ok (.aload_n 0, 1) := by decide +kernel
theorem dX1_updateData_8 : decode cX1_updateData 8 = .ok (.aload_n 0, 1) := by decide +kernel
theorem dX1_updateData_9 : decode cX1_updateData 9 = .ok (.getfield 40, 3) := by decide +kernel
theorem dX1_updateData_12 : decode cX1_updateData 12 = .ok (.putfield 24, 3) := by decide +kernel
theorem dX1_updateData_15 : decode cX1_updateData 15 = .ok (.return_, 1) := by decide +kernel
theorem dX1_dataOutput_0 : decode cX1_dataOutput 0 = .ok (.aload_n 0, 1) := by decide +kernel
theorem dX1_dataOutput_1 : decode cX1_dataOutput 1 = .ok (.getfield 27, 3) := by decide +kernel
theorem dX1_dataOutput_4 : decode cX1_dataOutput 4 = .ok (.ifCond .eq 7, 3) := by decide +kernel
theorem dX1_dataOutput_7 : decode cX1_dataOutput 7 = .ok (.iconst 1, 1) := by decide +kernel
theorem dX1_dataOutput_8 : decode cX1_dataOutput 8 = .ok (.goto 9, 3) := by decide +kernel
theorem dX1_dataOutput_11 : decode cX1_dataOutput 11 = .ok (.aload_n 0, 1) := by decide +kernel
theorem dX1_dataOutput_12 : decode cX1_dataOutput 12 = .ok (.getfield 40, 3) := by decide +kernel
theorem dX1_dataOutput_15 : decode cX1_dataOutput 15 = .ok (.iconst 1, 1) := by decide +kernel
theorem dX1_dataOutput_16 : decode cX1_dataOutput 16 = .ok (.iand, 1) := by decide +kernel
theorem dX1_dataOutput_17 : decode cX1_dataOutput 17 = .ok (.ireturn, 1) := by decide +kernel
theorem dX1_codeOutput_0 : decode cX1_codeOutput 0 = .ok (.aload_n 0, 1) := by decide +kernel
theorem dX1_codeOutput_1 : decode cX1_codeOutput 1 = .ok (.getfield 27, 3) := by decide +kernel
theorem dX1_codeOutput_4 : decode cX1_codeOutput 4 = .ok (.ifCond .eq 7, 3) := by decide +kernel
theorem dX1_codeOutput_7 : decode cX1_codeOutput 7 = .ok (.iconst 1, 1) := by decide +kernel
theorem dX1_codeOutput_8 : decode cX1_codeOutput 8 = .ok (.goto 9, 3) := by decide +kernel
theorem dX1_codeOutput_11 : decode cX1_codeOutput 11 = .ok (.aload_n 0, 1) := by decide +kernel
theorem dX1_codeOutput_12 : decode cX1_codeOutput 12 = .ok (.getfield 31, 3) := by decide +kernel
theorem dX1_codeOutput_15 : decode cX1_codeOutput 15 = .ok (.iconst 1, 1) := by decide +kernel
theorem dX1_codeOutput_16 : decode cX1_codeOutput 16 = .ok (.iand, 1) := by decide +kernel
theorem dX1_codeOutput_17 : decode cX1_codeOutput 17 = .ok (.ireturn, 1) := by decide +kernel
theorem dX1_shiftData_0 : decode cX1_shiftData 0 = .ok (.aload_n 0, 1) := by decide +kernel
theorem dX1_shiftData_1 : decode cX1_shiftData 1 = .ok (.aload_n 0, 1) := by decide +kernel
theorem dX1_shiftData_2 : decode cX1_shiftData 2 = .ok (.getfield 40, 3) := by decide +kernel
theorem dX1_shiftData_5 : decode cX1_shiftData 5 = .ok (.aload_n 0, 1) := by decide +kernel
theorem dX1_shiftData_6 : decode cX1_shiftData 6 = .ok (.invokevirtual 58, 3) := by decide +kernel
theorem dX1_shiftData_9 : decode cX1_shiftData 9 = .ok (.iload_n 1, 1) := by decide +kernel
theorem dX1_shiftData_10 : decode cX1_shiftData 10 = .ok (.invokestatic 62, 3) := by decide +kernel
theorem dX1_shiftData_13 : decode cX1_shiftData 13 = .ok (.putfield 40, 3) := by decide +kernel
theorem dX1_shiftData_16 : decode cX1_shiftData 16 = .ok (.return_, 1) := by decide +kernel
theorem dX1_shiftCode_0 : decode cX1_shiftCode 0 = .ok (.aload_n 0, 1) := by decide +kernel
theorem dX1_shiftCode_1 : decode cX1_shiftCode 1 = .ok (.aload_n 0, 1) := by decide +kernel
theorem dX1_shiftCode_2 : decode cX1_shiftCode 2 = .ok (.getfield 31, 3) := by decide +kernel
theorem dX1_shiftCode_5 : decode cX1_shiftCode 5 = .ok (.aload_n 0, 1) := by decide +kernel
theorem dX1_shiftCode_6 : decode cX1_shiftCode 6 = .ok (.getfield 9, 3) := by decide +kernel
theorem dX1_shiftCode_9 : decode cX1_shiftCode 9 = .ok (.iload_n 1, 1) := by decide +kernel
theorem dX1_shiftCode_10 : decode cX1_shiftCode 10 = .ok (.invokestatic 62, 3) := by decide +kernel
theorem dX1_shiftCode_13 : decode cX1_shiftCode 13 = .ok (.putfield 31, 3) := by decide +kernel
theorem dX1_shiftCode_16 : decode cX1_shiftCode 16 = .ok (.return_, 1) := by decide +kernel
theorem dX1_shifted_0 : decode cX1_shifted 0 = .ok (.iload_n 0, 1) := by decide +kernel
theorem dX1_shifted_1 : decode cX1_shifted 1 = .ok (.iconst 1, 1) := by decide +kernel
theorem dX1_shifted_2 : decode cX1_shifted 2 = .ok (.ishr, 1) := by decide +kernel
theorem dX1_shifted_3 : decode cX1_shifted 3 = .ok (.iload_n 2, 1) := by decide +kernel
theorem dX1_shifted_4 : decode cX1_shifted 4 = .ok (.iload_n 1, 1) := by decide +kernel
theorem dX1_shifted_5 : decode cX1_shifted 5 = .ok (.iconst 1, 1) := by decide +kernel
theorem dX1_shifted_6 : decode cX1_shifted 6 = .ok (.isub, 1) := by decide +kernel
theorem dX1_shifted_7 : decode cX1_shifted 7 = .ok (.ishl, 1) := by decide +kernel
theorem dX1_shifted_8 : decode cX1_shifted 8 = .ok (.ior, 1) := by decide +kernel
theorem dX1_shifted_9 : decode cX1_shifted 9 = .ok (.ireturn, 1) := by decide +kernel
theorem dX1_tell_0 : decode cX1_tell 0 = .ok (.iload_n 1, 1) := by decide +kernel
theorem dX1_tell_1 : decode cX1_tell 1 = .ok (.tableswitch 113 0 9 #[55, 60, 65, 70, 75, 80, 93, 98, 103, 108], 55) := by decide +kernel
theorem dX1_tell_56 : decode cX1_tell 56 = .ok (.aload_n 0, 1) := by decide +kernel
theorem dX1_tell_57 : decode cX1_tell 57 = .ok (.getfield 9, 3) := by decide +kernel
theorem dX1_tell_60 : decode cX1_tell 60 = .ok (.ireturn, 1) := by decide +kernel
theorem dX1_tell_61 : decode cX1_tell 61 = .ok (.aload_n 0, 1) := by decide +kernel
theorem dX1_tell_62 : decode cX1_tell 62 = .ok (.getfield 15, 3) := by decide +kernel
theorem dX1_tell_65 : decode cX1_tell 65 = .ok (.ireturn, 1) := by decide +kernel
theorem dX1_tell_66 : decode cX1_tell 66 = .ok (.aload_n 0, 1) := by decide +kernel
theorem dX1_tell_67 : decode cX1_tell 67 = .ok (.getfield 18, 3) := by decide +kernel
theorem dX1_tell_70 : decode cX1_tell 70 = .ok (.ireturn, 1) := by decide +kernel
theorem dX1_tell_71 : decode cX1_tell 71 = .ok (.aload_n 0, 1) := by decide +kernel
theorem dX1_tell_72 : decode cX1_tell 72 = .ok (.getfield 21, 3) := by decide +kernel
theorem dX1_tell_75 : decode cX1_tell 75 = .ok (.ireturn, 1) := by decide +kernel
theorem dX1_tell_76 : decode cX1_tell 76 = .ok (.aload_n 0, 1) := by decide +kernel
theorem dX1_tell_77 : decode cX1_tell 77 = .ok (.getfield 24, 3) := by decide +kernel
theorem dX1_tell_80 : decode cX1_tell 80 = .ok (.ireturn, 1) := by decide +kernel
theorem dX1_tell_81 : decode cX1_tell 81 = .ok (.aload_n 0, 1) := by decide +kernel
theorem dX1_tell_82 : decode cX1_tell 82 = .ok (.getfield 27, 3) := by decide +kernel
theorem dX1_tell_85 : decode cX1_tell 85 = .ok (.ifCond .eq 7, 3) := by decide +kernel
theorem dX1_tell_88 : decode cX1_tell 88 = .ok (.iconst 1, 1) := by decide +kernel
theorem dX1_tell_89 : decode cX1_tell 89 = .ok (.goto 4, 3) := by decide +kernel
theorem dX1_tell_92 : decode cX1_tell 92 = .ok (.iconst 0, 1) := by decide +kernel
theorem dX1_tell_93 : decode cX1_tell 93 = .ok (.ireturn, 1) := by decide +kernel
theorem dX1_tell_94 : decode cX1_tell 94 = .ok (.aload_n 0, 1) := by decide +kernel
theorem dX1_tell_95 : decode cX1_tell 95 = .ok (.getfield 37, 3) := by decide +kernel
theorem dX1_tell_98 : decode cX1_tell 98 = .ok (.ireturn, 1) := by decide +kernel
theorem dX1_tell_99 : decode cX1_tell 99 = .ok (.aload_n 0, 1) := by decide +kernel
theorem dX1_tell_100 : decode cX1_tell 100 = .ok (.getfield 31, 3) := by decide +kernel
theorem dX1_tell_103 : decode cX1_tell 103 = .ok (.ireturn, 1) := by decide +kernel
theorem dX1_tell_104 : decode cX1_tell 104 = .ok (.aload_n 0, 1) := by decide +kernel
theorem dX1_tell_105 : decode cX1_tell 105 = .ok (.getfield 40, 3) := by decide +kernel
theorem dX1_tell_108 : decode cX1_tell 108 = .ok (.ireturn, 1) := by decide +kernel
theorem dX1_tell_109 : decode cX1_tell 109 = .ok (.aload_n 0, 1) := by decide +kernel
theorem dX1_tell_110 : decode cX1_tell 110 = .ok (.invokevirtual 58, 3) := by decide +kernel
theorem dX1_tell_113 : decode cX1_tell 113 = .ok (.ireturn, 1) := by decide +kernel
theorem dX1_tell_114 : decode cX1_tell 114 = .ok (.bipush (-2), 2) := by decide +kernel
theorem dX1_tell_116 : decode cX1_tell 116 = .ok (.ireturn, 1) := by decide +kernel
theorem dX2_isState_0 : decode cX2_isState 0 = .ok (.iload_n 0, 1) := by decide +kernel
theorem dX2_isState_1 : decode cX2_isState 1 = .ok (.ifCond .lt 13, 3) := by decide +kernel
theorem dX2_isState_4 : decode cX2_isState 4 = .ok (.iload_n 0, 1) := by decide +kernel
theorem dX2_isState_5 : decode cX2_isState 5 = .ok (.bipush 16, 2) := by decide +kernel
theorem dX2_isState_7 : decode cX2_isState 7 = .ok (.if_icmp .ge 7, 3) := by decide +kernel
theorem dX2_isState_10 : decode cX2_isState 10 = .ok (.iconst 1, 1) := by decide +kernel
theorem dX2_isState_11 : decode cX2_isState 11 = .ok (.goto 4, 3) := by decide +kernel
theorem dX2_isState_14 : decode cX2_isState 14 = .ok (.iconst 0, 1) := by decide +kernel
theorem dX2_isState_15 : decode cX2_isState 15 = .ok (.ireturn, 1) := by decide +kernel
theorem dX2_next_0 : decode cX2_next 0 = .ok (.iload_n 0, 1) := by decide +kernel
theorem dX2_next_1 : decode cX2_next 1 = .ok (.invokestatic 9, 3) := by decide +kernel
theorem dX2_next_4 : decode cX2_next 4 = .ok (.ifCond .ne 5, 3) := by decide +kernel
theorem dX2_next_7 : decode cX2_next 7 = .ok (.iconst 0, 1) := by decide +kernel
theorem dX2_next_8 : decode cX2_next 8 = .ok (.ireturn, 1) := by decide +kernel
theorem dX2_next_9 : decode cX2_next 9 = .ok (.iload_n 1, 1) := by decide +kernel
theorem dX2_next_10 : decode cX2_next 10 = .ok (.ifCond .ne 11, 3) := by decide +kernel
theorem dX2_next_13 : decode cX2_next 13 = .ok (.getstatic 13, 3) := by decide +kernel
theorem dX2_next_16 : decode cX2_next 16 = .ok (.iload_n 0, 1) := by decide +kernel
theorem dX2_next_17 : decode cX2_next 17 = .ok (.iaload, 1) := by decide +kernel
theorem dX2_next_18 : decode cX2_next 18 = .ok (.goto 8, 3) := by decide +kernel
theorem dX2_next_21 : decode cX2_next 21 = .ok (.getstatic 17, 3) := by decide +kernel
theorem dX2_next_24 : decode cX2_next 24 = .ok (.iload_n 0, 1) := by decide +kernel
theorem dX2_next_25 : decode cX2_next 25 = .ok (.iaload, 1) := by decide +kernel
theorem dX2_next_26 : decode cX2_next 26 = .ok (.ireturn, 1) := by decide +kernel
theorem dX2_clocksBetween_0 : decode cX2_clocksBetween 0 = .ok (.iconst 1, 1) := by decide +kernel
theorem dX2_clocksBetween_1 : decode cX2_clocksBetween 1 = .ok (.iload_n 0, 1) := by decide +kernel
theorem dX2_clocksBetween_2 : decode cX2_clocksBetween 2 = .ok (.ishl, 1) := by decide +kernel
theorem dX2_clocksBetween_3 : decode cX2_clocksBetween 3 = .ok (.istore_n 2, 1) := by decide +kernel
theorem dX2_clocksBetween_4 : decode cX2_clocksBetween 4 = .ok (.iconst 0, 1) := by decide +kernel
theorem dX2_clocksBetween_5 : decode cX2_clocksBetween 5 = .ok (.istore_n 3, 1) := by decide +kernel
theorem dX2_clocksBetween_6 : decode cX2_clocksBetween 6 = .ok (.iload_n 3, 1) := by decide +kernel
theorem dX2_clocksBetween_7 : decode cX2_clocksBetween 7 = .ok (.bipush 16, 2) := by decide +kernel
theorem dX2_clocksBetween_9 : decode cX2_clocksBetween 9 = .ok (.if_icmp .ge 22, 3) := by decide +kernel
theorem dX2_clocksBetween_12 : decode cX2_clocksBetween 12 = .ok (.iload_n 2, 1) := by decide +kernel
theorem dX2_clocksBetween_13 : decode cX2_clocksBetween 13 = .ok (.iload_n 1, 1) := by decide +kernel
theorem dX2_clocksBetween_14 : decode cX2_clocksBetween 14 = .ok (.ishr, 1) := by decide +kernel
theorem dX2_clocksBetween_15 : decode cX2_clocksBetween 15 = .ok (.iconst 1, 1) := by decide +kernel
theorem dX2_clocksBetween_16 : decode cX2_clocksBetween 16 = .ok (.iand, 1) := by decide +kernel
theorem dX2_clocksBetween_17 : decode cX2_clocksBetween 17 = .ok (.ifCond .ne 14, 3) := by decide +kernel
theorem dX2_clocksBetween_20 : decode cX2_clocksBetween 20 = .ok (.iload_n 2, 1) := by decide +kernel
theorem dX2_clocksBetween_21 : decode cX2_clocksBetween 21 = .ok (.invokestatic 20, 3) := by decide +kernel
theorem dX2_clocksBetween_24 : decode cX2_clocksBetween 24 = .ok (.istore_n 2, 1) := by decide +kernel
theorem dX2_clocksBetween_25 : decode cX2_clocksBetween 25 = .ok (.iinc 3 1, 3) := by decide +kernel
theorem dX2_clocksBetween_28 : decode cX2_clocksBetween 28 = .ok (.goto (-22), 3) := by decide +kernel
theorem dX2_clocksBetween_31 : decode cX2_clocksBetween 31 = .ok (.iload_n 3, 1) := by decide +kernel
theorem dX2_clocksBetween_32 : decode cX2_clocksBetween 32 = .ok (.ireturn, 1) := by decide +kernel
theorem dX2_nextOfAll_0 : decode cX2_nextOfAll 0 = .ok (.iconst 0, 1) := by decide +kernel
theorem dX2_nextOfAll_1 : decode cX2_nextOfAll 1 = .ok (.istore_n 1, 1) := by decide +kernel
theorem dX2_nextOfAll_2 : decode cX2_nextOfAll 2 = .ok (.iconst 0, 1) := by decide +kernel
theorem dX2_nextOfAll_3 : decode cX2_nextOfAll 3 = .ok (.istore_n 2, 1) := by decide +kernel
theorem dX2_nextOfAll_4 : decode cX2_nextOfAll 4 = .ok (.iload_n 2, 1) := by decide +kernel
theorem dX2_nextOfAll_5 : decode cX2_nextOfAll 5 = .ok (.bipush 16, 2) := by decide +kernel
theorem dX2_nextOfAll_7 : decode cX2_nextOfAll 7 = .ok (.if_icmp .ge 36, 3) := by decide +kernel
theorem dX2_nextOfAll_10 : decode cX2_nextOfAll 10 = .ok (.iload_n 0, 1) := by decide +kernel
theorem dX2_nextOfAll_11 : decode cX2_nextOfAll 11 = .ok (.iload_n 2, 1) := by decide +kernel
theorem dX2_nextOfAll_12 : decode cX2_nextOfAll 12 = .ok (.ishr, 1) := by decide +kernel
theorem dX2_nextOfAll_13 : decode cX2_nextOfAll 13 = .ok (.iconst 1, 1) := by decide +kernel
theorem dX2_nextOfAll_14 : decode cX2_nextOfAll 14 = .ok (.iand, 1) := by decide +kernel
theorem dX2_nextOfAll_15 : decode cX2_nextOfAll 15 = .ok (.iconst 1, 1) := by decide +kernel
theorem dX2_nextOfAll_16 : decode cX2_nextOfAll 16 = .ok (.if_icmp .ne 21, 3) := by decide +kernel
theorem dX2_nextOfAll_19 : decode cX2_nextOfAll 19 = .ok (.iload_n 1, 1) := by decide +kernel
theorem dX2_nextOfAll_20 : decode cX2_nextOfAll 20 = .ok (.iconst 1, 1) := by decide +kernel
theorem dX2_nextOfAll_21 : decode cX2_nextOfAll 21 = .ok (.iload_n 2, 1) := by decide +kernel
theorem dX2_nextOfAll_22 : decode cX2_nextOfAll 22 = .ok (.iconst 0, 1) := by decide +kernel
theorem dX2_nextOfAll_23 : decode cX2_nextOfAll 23 = .ok (.invokestatic 24, 3) := by decide +kernel
theorem dX2_nextOfAll_26 : decode cX2_nextOfAll 26 = .ok (.ishl, 1) := by decide +kernel
theorem dX2_nextOfAll_27 : decode cX2_nextOfAll 27 = .ok (.iconst 1, 1) := by decide +kernel
theorem dX2_nextOfAll_28 : decode cX2_nextOfAll 28 = .ok (.iload_n 2, 1) := by decide +kernel
theorem dX2_nextOfAll_29 : decode cX2_nextOfAll 29 = .ok (.iconst 1, 1) := by decide +kernel
theorem dX2_nextOfAll_30 : decode cX2_nextOfAll 30 = .ok (.invokestatic 24, 3) := by decide +kernel
theorem dX2_nextOfAll_33 : decode cX2_nextOfAll 33 = .ok (.ishl, 1) := by decide +kernel
theorem dX2_nextOfAll_34 : decode cX2_nextOfAll 34 = .ok (.ior, 1) := by decide +kernel
theorem dX2_nextOfAll_35 : decode cX2_nextOfAll 35 = .ok (.ior, 1) := by decide +kernel
theorem dX2_nextOfAll_36 : decode cX2_nextOfAll 36 = .ok (.istore_n 1, 1) := by decide +kernel
theorem dX2_nextOfAll_37 : decode cX2_nextOfAll 37 = .ok (.iinc 2 1, 3) := by decide +kernel
theorem dX2_nextOfAll_40 : decode cX2_nextOfAll 40 = .ok (.goto (-36), 3) := by decide +kernel
theorem dX2_nextOfAll_43 : decode cX2_nextOfAll 43 = .ok (.iload_n 1, 1) := by decide +kernel
theorem dX2_nextOfAll_44 : decode cX2_nextOfAll 44 = .ok (.ireturn, 1) := by decide +kernel
theorem dX3_init_0 : decode cX3_init 0 = .ok (.aload_n 0, 1) := by decide +kernel
theorem dX3_init_1 : decode cX3_init 1 = .ok (.invokespecial 3, 3) := by decide +kernel
theorem dX3_init_4 : decode cX3_init 4 = .ok (.aload_n 0, 1) := by decide +kernel
theorem dX3_init_5 : decode cX3_init 5 = .ok (.iconst 4, 1) := by decide +kernel
theorem dX3_init_6 : decode cX3_init 6 = .ok (.anewarray 9, 3) := by decide +kernel
theorem dX3_init_9 : decode cX3_init 9 = .ok (.putfield 11, 3) := by decide +kernel
theorem dX3_init_12 : decode cX3_init 12 = .ok (.iconst 0, 1) := by decide +kernel
theorem dX3_init_13 : decode cX3_init 13 = .ok (.istore_n 1, 1) := by decide +kernel
theorem dX3_init_14 : decode cX3_init 14 = .ok (.iload_n 1, 1) := by decide +kernel
theorem dX3_init_15 : decode cX3_init 15 = .ok (.aload_n 0, 1) := by decide +kernel
theorem dX3_init_16 : decode cX3_init 16 = .ok (.getfield 11, 3) := by decide +kernel
theorem dX3_init_19 : decode cX3_init 19 = .ok (.arraylength, 1) := by decide +kernel
theorem dX3_init_20 : decode cX3_init 20 = .ok (.if_icmp .ge 22, 3) := by decide +kernel
theorem dX3_init_23 : decode cX3_init 23 = .ok (.aload_n 0, 1) := by decide +kernel
theorem dX3_init_24 : decode cX3_init 24 = .ok (.getfield 11, 3) := by decide +kernel
theorem dX3_init_27 : decode cX3_init 27 = .ok (.iload_n 1, 1) := by decide +kernel
theorem dX3_init_28 : decode cX3_init 28 = .ok (.new 9, 3) := by decide +kernel
theorem dX3_init_31 : decode cX3_init 31 = .ok (.dup, 1) := by decide +kernel
theorem dX3_init_32 : decode cX3_init 32 = .ok (.invokespecial 17, 3) := by decide +kernel
theorem dX3_init_35 : decode cX3_init 35 = .ok (.aastore, 1) := by decide +kernel
theorem dX3_init_36 : decode cX3_init 36 = .ok (.iinc 1 1, 3) := by decide +kernel
theorem dX3_init_39 : decode cX3_init 39 = .ok (.goto (-25), 3) := by decide +kernel
theorem dX3_init_42 : decode cX3_init 42 = .ok (.aload_n 0, 1) := by decide +kernel
theorem dX3_init_43 : decode cX3_init 43 = .ok (.iconst 0, 1) := by decide +kernel
theorem dX3_init_44 : decode cX3_init 44 = .ok (.putfield 18, 3) := by decide +kernel
theorem dX3_init_47 : decode cX3_init 47 = .ok (.return_, 1) := by decide +kernel
theorem dX3_record_0 : decode cX3_record 0 = .ok (.aload_n 0, 1) := by decide +kernel
theorem dX3_record_1 : decode cX3_record 1 = .ok (.getfield 18, 3) := by decide +kernel
theorem dX3_record_4 : decode cX3_record 4 = .ok (.aload_n 0, 1) := by decide +kernel
theorem dX3_record_5 : decode cX3_record 5 = .ok (.getfield 11, 3) := by decide +kernel
theorem dX3_record_8 : decode cX3_record 8 = .ok (.arraylength, 1) := by decide +kernel
theorem dX3_record_9 : decode cX3_record 9 = .ok (.if_icmp .lt 7, 3) := by decide +kernel
theorem dX3_record_12 : decode cX3_record 12 = .ok (.aload_n 0, 1) := by decide +kernel
theorem dX3_record_13 : decode cX3_record 13 = .ok (.invokevirtual 22, 3) := by decide +kernel
theorem dX3_record_16 : decode cX3_record 16 = .ok (.aload_n 0, 1) := by decide +kernel
theorem dX3_record_17 : decode cX3_record 17 = .ok (.getfield 11, 3) := by decide +kernel
theorem dX3_record_20 : decode cX3_record 20 = .ok (.aload_n 0, 1) := by decide +kernel
theorem dX3_record_21 : decode cX3_record 21 = .ok (.getfield 18, 3) := by decide +kernel
theorem dX3_record_24 : decode cX3_record 24 = .ok (.aaload, 1) := by decide +kernel
theorem dX3_record_25 : decode cX3_record 25 = .ok (.aload_n 1, 1) := by decide +kernel
theorem dX3_record_26 : decode cX3_record 26 = .ok (.invokevirtual 25, 3) := by decide +kernel
theorem dX3_record_29 : decode cX3_record 29 = .ok (.aload_n 0, 1) := by decide +kernel
theorem dX3_record_30 : decode cX3_record 30 = .ok (.dup, 1) := by decide +kernel
theorem dX3_record_31 : decode cX3_record 31 = .ok (.getfield 18, 3) := by decide +kernel
theorem dX3_record_34 : decode cX3_record 34 = .ok (.iconst 1, 1) := by decide +kernel
theorem dX3_record_35 : decode cX3_record 35 = .ok (.iadd, 1) := by decide +kernel
theorem dX3_record_36 : decode cX3_record 36 = .ok (.putfield 18, 3) := by decide +kernel
theorem dX3_record_39 : decode cX3_record 39 = .ok (.return_, 1) := by decide +kernel
theorem dX3_dropOldest_0 : decode cX3_dropOldest 0 = .ok (.aload_n 0, 1) := by decide +kernel
theorem dX3_dropOldest_1 : decode cX3_dropOldest 1 = .ok (.getfield 11, 3) := by decide +kernel
theorem dX3_dropOldest_4 : decode cX3_dropOldest 4 = .ok (.iconst 0, 1) := by decide +kernel
theorem dX3_dropOldest_5 : decode cX3_dropOldest 5 = .ok (.aaload, 1) := by decide +kernel
theorem dX3_dropOldest_6 : decode cX3_dropOldest 6 = .ok (.astore_n 1, 1) := by decide +kernel
theorem dX3_dropOldest_7 : decode cX3_dropOldest 7 = .ok (.iconst 1, 1) := by decide +kernel
theorem dX3_dropOldest_8 : decode cX3_dropOldest 8 = .ok (.istore_n 2, 1) := by decide +kernel
theorem dX3_dropOldest_9 : decode cX3_dropOldest 9 = .ok (.iload_n 2, 1) := by decide +kernel
theorem dX3_dropOldest_10 : decode cX3_dropOldest 10 = .ok (.aload_n 0, 1) := by decide +kernel
theorem dX3_dropOldest_11 : decode cX3_dropOldest 11 = .ok (.getfield 11, 3) := by decide +kernel
theorem dX3_dropOldest_14 : decode cX3_dropOldest 14 = .ok (.arraylength, 1) := by decide +kernel
theorem dX3_dropOldest_15 : decode cX3_dropOldest 15 = .ok (.if_icmp .ge 23, 3) := by decide +kernel
theorem dX3_dropOldest_18 : decode cX3_dropOldest 18 = .ok (.aload_n 0, 1) := by decide +kernel
theorem dX3_dropOldest_19 : decode cX3_dropOldest 19 = .ok (.getfield 11, 3) := by decide +kernel
theorem dX3_dropOldest_22 : decode cX3_dropOldest 22 = .ok (.iload_n 2, 1) := by decide +kernel
theorem dX3_dropOldest_23 : decode cX3_dropOldest 23 = .ok (.iconst 1, 1) := by decide +kernel
theorem dX3_dropOldest_24 : decode cX3_dropOldest 24 = .ok (.isub, 1) := by decide +kernel
theorem dX3_dropOldest_25 : decode cX3_dropOldest 25 = .ok (.aload_n 0, 1) := by decide +kernel
theorem dX3_dropOldest_26 : decode cX3_dropOldest 26 = .ok (.getfield 11, 3) := by decide +kernel
theorem dX3_dropOldest_29 : decode cX3_dropOldest 29 = .ok (.iload_n 2, 1) := by decide +kernel
theorem dX3_dropOldest_30 : decode cX3_dropOldest 30 = .ok (.aaload, 1) := by decide +kernel
theorem dX3_dropOldest_31 : decode cX3_dropOldest 31 = .ok (.aastore, 1) := by decide +kernel
theorem dX3_dropOldest_32 : decode cX3_dropOldest 32 = .ok (.iinc 2 1, 3) := by decide +kernel
theorem dX3_dropOldest_35 : decode cX3_dropOldest 35 = .ok (.goto (-26), 3) := by decide +kernel
theorem dX3_dropOldest_38 : decode cX3_dropOldest 38 = .ok (.aload_n 0, 1) := by decide +kernel
theorem dX3_dropOldest_39 : decode cX3_dropOldest 39 = .ok (.getfield 11, 3) := by decide +kernel
theorem dX3_dropOldest_42 : decode cX3_dropOldest 42 = .ok (.aload_n 0, 1) := by decide +kernel
theorem dX3_dropOldest_43 : decode cX3_dropOldest 43 = .ok (.getfield 11, 3) := by decide +kernel
theorem dX3_dropOldest_46 : decode cX3_dropOldest 46 = .ok (.arraylength, 1) := by decide +kernel
theorem dX3_dropOldest_47 : decode cX3_dropOldest 47 = .ok (.iconst 1, 1) := by decide +kernel
theorem dX3_dropOldest_48 : decode cX3_dropOldest 48 = .ok (.isub, 1) := by decide +kernel
theorem dX3_dropOldest_49 : decode cX3_dropOldest 49 = .ok (.aload_n 1, 1) := by decide +kernel
theorem dX3_dropOldest_50 : decode cX3_dropOldest 50 = .ok (.aastore, 1) := by decide +kernel
theorem dX3_dropOldest_51 : decode cX3_dropOldest 51 = .ok (.aload_n 0, 1) := by decide +kernel
theorem dX3_dropOldest_52 : decode cX3_dropOldest 52 = .ok (.aload_n 0, 1) := by decide +kernel
theorem dX3_dropOldest_53 : decode cX3_dropOldest 53 = .ok (.getfield 11, 3) := by decide +kernel
theorem dX3_dropOldest_56 : decode cX3_dropOldest 56 = .ok (.arraylength, 1) := by decide +kernel
theorem dX3_dropOldest_57 : decode cX3_dropOldest 57 = .ok (.iconst 1, 1) := by decide +kernel
theorem dX3_dropOldest_58 : decode cX3_dropOldest 58 = .ok (.isub, 1) := by decide +kernel
theorem dX3_dropOldest_59 : decode cX3_dropOldest 59 = .ok (.putfield 18, 3) := by decide +kernel
theorem dX3_dropOldest_62 : decode cX3_dropOldest 62 = .ok (.return_, 1) := by decide +kernel
theorem dX3_takeBack_0 : decode cX3_takeBack 0 = .ok (.aload_n 0, 1) := by decide +kernel
theorem dX3_takeBack_1 : decode cX3_takeBack 1 = .ok (.getfield 18, 3) := by decide +kernel
theorem dX3_takeBack_4 : decode cX3_takeBack 4 = .ok (.ifCond .gt 6, 3) := by decide +kernel
theorem dX3_takeBack_7 : decode cX3_takeBack 7 = .ok (.bipush (-4), 2) := by decide +kernel
theorem dX3_takeBack_9 : decode cX3_takeBack 9 = .ok (.ireturn, 1) := by decide +kernel
theorem dX3_takeBack_10 : decode cX3_takeBack 10 = .ok (.aload_n 0, 1) := by decide +kernel
theorem dX3_takeBack_11 : decode cX3_takeBack 11 = .ok (.dup, 1) := by decide +kernel
theorem dX3_takeBack_12 : decode cX3_takeBack 12 = .ok (.getfield 18, 3) := by decide +kernel
theorem dX3_takeBack_15 : decode cX3_takeBack 15 = .ok (.iconst 1, 1) := by decide +kernel
theorem dX3_takeBack_16 : decode cX3_takeBack 16 = .ok (.isub, 1) := by decide +kernel
theorem dX3_takeBack_17 : decode cX3_takeBack 17 = .ok (.putfield 18, 3) := by decide +kernel
theorem dX3_takeBack_20 : decode cX3_takeBack 20 = .ok (.aload_n 1, 1) := by decide +kernel
theorem dX3_takeBack_21 : decode cX3_takeBack 21 = .ok (.aload_n 0, 1) := by decide +kernel
theorem dX3_takeBack_22 : decode cX3_takeBack 22 = .ok (.getfield 11, 3) := by decide +kernel
theorem dX3_takeBack_25 : decode cX3_takeBack 25 = .ok (.aload_n 0, 1) := by decide +kernel
theorem dX3_takeBack_26 : decode cX3_takeBack 26 = .ok (.getfield 18, 3) := by decide +kernel
theorem dX3_takeBack_29 : decode cX3_takeBack 29 = .ok (.aaload, 1) := by decide +kernel
theorem dX3_takeBack_30 : decode cX3_takeBack 30 = .ok (.invokevirtual 25, 3) := by decide +kernel
theorem dX3_takeBack_33 : decode cX3_takeBack 33 = .ok (.aload_n 0, 1) := by decide +kernel
theorem dX3_takeBack_34 : decode cX3_takeBack 34 = .ok (.getfield 18, 3) := by decide +kernel
theorem dX3_takeBack_37 : decode cX3_takeBack 37 = .ok (.ireturn, 1) := by decide +kernel
theorem dX4_goTo_0 : decode cX4_goTo 0 = .ok (.aload_n 0, 1) := by decide +kernel
theorem dX4_goTo_1 : decode cX4_goTo 1 = .ok (.getfield 9, 3) := by decide +kernel
theorem dX4_goTo_4 : decode cX4_goTo 4 = .ok (.iload_n 1, 1) := by decide +kernel
theorem dX4_goTo_5 : decode cX4_goTo 5 = .ok (.invokestatic 15, 3) := by decide +kernel
theorem dX4_goTo_8 : decode cX4_goTo 8 = .ok (.istore_n 2, 1) := by decide +kernel
theorem dX4_goTo_9 : decode cX4_goTo 9 = .ok (.iload_n 2, 1) := by decide +kernel
theorem dX4_goTo_10 : decode cX4_goTo 10 = .ok (.iconst 1, 1) := by decide +kernel
theorem dX4_goTo_11 : decode cX4_goTo 11 = .ok (.isub, 1) := by decide +kernel
theorem dX4_goTo_12 : decode cX4_goTo 12 = .ok (.istore_n 3, 1) := by decide +kernel
theorem dX4_goTo_13 : decode cX4_goTo 13 = .ok (.iload_n 3, 1) := by decide +kernel
theorem dX4_goTo_14 : decode cX4_goTo 14 = .ok (.ifCond .lt 44, 3) := by decide +kernel
theorem dX4_goTo_17 : decode cX4_goTo 17 = .ok (.aload_n 0, 1) := by decide +kernel
theorem dX4_goTo_18 : decode cX4_goTo 18 = .ok (.getfield 9, 3) := by decide +kernel
theorem dX4_goTo_21 : decode cX4_goTo 21 = .ok (.iconst 0, 1) := by decide +kernel
theorem dX4_goTo_22 : decode cX4_goTo 22 = .ok (.invokestatic 21, 3) := by decide +kernel
theorem dX4_goTo_25 : decode cX4_goTo 25 = .ok (.istore 4, 2) := by decide +kernel
theorem dX4_goTo_27 : decode cX4_goTo 27 = .ok (.iload 4, 2) := by decide +kernel
theorem dX4_goTo_29 : decode cX4_goTo 29 = .ok (.iload_n 1, 1) := by decide +kernel
theorem dX4_goTo_30 : decode cX4_goTo 30 = .ok (.invokestatic 15, 3) := by decide +kernel
theorem dX4_goTo_33 : decode cX4_goTo 33 = .ok (.iload_n 3, 1) := by decide +kernel
theorem dX4_goTo_34 : decode cX4_goTo 34 = .ok (.if_icmp .ne 7, 3) := by decide +kernel
theorem dX4_goTo_37 : decode cX4_goTo 37 = .ok (.iconst 0, 1) := by decide +kernel
theorem dX4_goTo_38 : decode cX4_goTo 38 = .ok (.goto 4, 3) := by decide +kernel
theorem dX4_goTo_41 : decode cX4_goTo 41 = .ok (.iconst 1, 1) := by decide +kernel
theorem dX4_goTo_42 : decode cX4_goTo 42 = .ok (.istore 5, 2) := by decide +kernel
theorem dX4_goTo_44 : decode cX4_goTo 44 = .ok (.aload_n 0, 1) := by decide +kernel
theorem dX4_goTo_45 : decode cX4_goTo 45 = .ok (.iload 5, 2) := by decide +kernel
theorem dX4_goTo_47 : decode cX4_goTo 47 = .ok (.iconst 1, 1) := by decide +kernel
theorem dX4_goTo_48 : decode cX4_goTo 48 = .ok (.invokevirtual 24, 3) := by decide +kernel
theorem dX4_goTo_51 : decode cX4_goTo 51 = .ok (.pop, 1) := by decide +kernel
theorem dX4_goTo_52 : decode cX4_goTo 52 = .ok (.iinc 3 (-1), 3) := by decide +kernel
theorem dX4_goTo_55 : decode cX4_goTo 55 = .ok (.goto (-42), 3) := by decide +kernel
theorem dX4_goTo_58 : decode cX4_goTo 58 = .ok (.iload_n 2, 1) := by decide +kernel
theorem dX4_goTo_59 : decode cX4_goTo 59 = .ok (.ireturn, 1) := by decide +kernel
theorem dX4_readIdentities_0 : decode cX4_readIdentities 0 = .ok (.iconst 0, 1) := by decide +kernel
theorem dX4_readIdentities_1 : decode cX4_readIdentities 1 = .ok (.istore_n 1, 1) := by decide +kernel
theorem dX4_readIdentities_2 : decode cX4_readIdentities 2 = .ok (.iload_n 1, 1) := by decide +kernel
theorem dX4_readIdentities_3 : decode cX4_readIdentities 3 = .ok (.iconst 5, 1) := by decide +kernel
theorem dX4_readIdentities_4 : decode cX4_readIdentities 4 = .ok (.if_icmp .ge 16, 3) := by decide +kernel
theorem dX4_readIdentities_7 : decode cX4_readIdentities 7 = .ok (.aload_n 0, 1) := by decide +kernel
theorem dX4_readIdentities_8 : decode cX4_readIdentities 8 = .ok (.iconst 1, 1) := by decide +kernel
theorem dX4_readIdentities_9 : decode cX4_readIdentities 9 = .ok (.iconst 1, 1) := by decide +kernel
theorem dX4_readIdentities_10 : decode cX4_readIdentities 10 = .ok (.invokevirtual 24, 3) := by decide +kernel
theorem dX4_readIdentities_13 : decode cX4_readIdentities 13 = .ok (.pop, 1) := by decide +kernel
theorem dX4_readIdentities_14 : decode cX4_readIdentities 14 = .ok (.iinc 1 1, 3) := by decide +kernel
theorem dX4_readIdentities_17 : decode cX4_readIdentities 17 = .ok (.goto (-15), 3) := by decide +kernel
theorem dX4_readIdentities_20 : decode cX4_readIdentities 20 = .ok (.aload_n 0, 1) := by decide +kernel
theorem dX4_readIdentities_21 : decode cX4_readIdentities 21 = .ok (.iconst 4, 1) := by decide +kernel
theorem dX4_readIdentities_22 : decode cX4_readIdentities 22 = .ok (.invokestatic 29, 3) := by decide +kernel
theorem dX4_readIdentities_25 : decode cX4_readIdentities 25 = .ok (.pop, 1) := by decide +kernel
theorem dX4_readIdentities_26 : decode cX4_readIdentities 26 = .ok (.aload_n 0, 1) := by decide +kernel
theorem dX4_readIdentities_27 : decode cX4_readIdentities 27 = .ok (.invokevirtual 33, 3) := by decide +kernel
theorem dX4_readIdentities_30 : decode cX4_readIdentities 30 = .ok (.iconst 0, 1) := by decide +kernel
theorem dX4_readIdentities_31 : decode cX4_readIdentities 31 = .ok (.istore_n 1, 1) := by decide +kernel
theorem dX4_readIdentities_32 : decode cX4_readIdentities 32 = .ok (.iload_n 1, 1) := by decide +kernel
theorem dX4_readIdentities_33 : decode cX4_readIdentities 33 = .ok (.bipush 8, 2) := by decide +kernel
theorem dX4_readIdentities_35 : decode cX4_readIdentities 35 = .ok (.if_icmp .ge 29, 3) := by decide +kernel
theorem dX4_readIdentities_38 : decode cX4_readIdentities 38 = .ok (.aload_n 0, 1) := by decide +kernel
theorem dX4_readIdentities_39 : decode cX4_readIdentities 39 = .ok (.invokestatic 36, 3) := by decide +kernel
theorem dX4_readIdentities_42 : decode cX4_readIdentities 42 = .ok (.istore_n 2, 1) := by decide +kernel
theorem dX4_readIdentities_43 : decode cX4_readIdentities 43 = .ok (.iload_n 2, 1) := by decide +kernel
theorem dX4_readIdentities_44 : decode cX4_readIdentities 44 = .ok (.sipush 255, 3) := by decide +kernel
theorem dX4_readIdentities_47 : decode cX4_readIdentities 47 = .ok (.if_icmp .ne 6, 3) := by decide +kernel
theorem dX4_readIdentities_50 : decode cX4_readIdentities 50 = .ok (.goto 14, 3) := by decide +kernel
theorem dX4_readIdentities_53 : decode cX4_readIdentities 53 = .ok (.aload_n 0, 1) := by decide +kernel
theorem dX4_readIdentities_54 : decode cX4_readIdentities 54 = .ok (.iload_n 2, 1) := by decide +kernel
theorem dX4_readIdentities_55 : decode cX4_readIdentities 55 = .ok (.invokevirtual 40, 3) := by decide +kernel
theorem dX4_readIdentities_58 : decode cX4_readIdentities 58 = .ok (.iinc 1 1, 3) := by decide +kernel
theorem dX4_readIdentities_61 : decode cX4_readIdentities 61 = .ok (.goto (-29), 3) := by decide +kernel
theorem dX4_readIdentities_64 : decode cX4_readIdentities 64 = .ok (.aload_n 0, 1) := by decide +kernel
theorem dX4_readIdentities_65 : decode cX4_readIdentities 65 = .ok (.iconst 1, 1) := by decide +kernel
theorem dX4_readIdentities_66 : decode cX4_readIdentities 66 = .ok (.invokestatic 29, 3) := by decide +kernel
theorem dX4_readIdentities_69 : decode cX4_readIdentities 69 = .ok (.pop, 1) := by decide +kernel
theorem dX4_readIdentities_70 : decode cX4_readIdentities 70 = .ok (.aload_n 0, 1) := by decide +kernel
theorem dX4_readIdentities_71 : decode cX4_readIdentities 71 = .ok (.getfield 44, 3) := by decide +kernel
theorem dX4_readIdentities_74 : decode cX4_readIdentities 74 = .ok (.ireturn, 1) := by decide +kernel
theorem dX4_readIdentity_0 : decode cX4_readIdentity 0 = .ok (.aload_n 0, 1) := by decide +kernel
theorem dX4_readIdentity_1 : decode cX4_readIdentity 1 = .ok (.iconst 0, 1) := by decide +kernel
theorem dX4_readIdentity_2 : decode cX4_readIdentity 2 = .ok (.iconst 1, 1) := by decide +kernel
theorem dX4_readIdentity_3 : decode cX4_readIdentity 3 = .ok (.invokevirtual 24, 3) := by decide +kernel
theorem dX4_readIdentity_6 : decode cX4_readIdentity 6 = .ok (.istore_n 1, 1) := by decide +kernel
theorem dX4_readIdentity_7 : decode cX4_readIdentity 7 = .ok (.iconst 1, 1) := by decide +kernel
theorem dX4_readIdentity_8 : decode cX4_readIdentity 8 = .ok (.istore_n 2, 1) := by decide +kernel
theorem dX4_readIdentity_9 : decode cX4_readIdentity 9 = .ok (.iload_n 1, 1) := by decide +kernel
theorem dX4_readIdentity_10 : decode cX4_readIdentity 10 = .ok (.ifCond .eq 26, 3) := by decide +kernel
theorem dX4_readIdentity_13 : decode cX4_readIdentity 13 = .ok (.iload_n 2, 1) := by decide +kernel
theorem dX4_readIdentity_14 : decode cX4_readIdentity 14 = .ok (.bipush 8, 2) := by decide +kernel
theorem dX4_readIdentity_16 : decode cX4_readIdentity 16 = .ok (.if_icmp .ge 20, 3) := by decide +kernel
theorem dX4_readIdentity_19 : decode cX4_readIdentity 19 = .ok (.iload_n 1, 1) := by decide +kernel
theorem dX4_readIdentity_20 : decode cX4_readIdentity 20 = .ok (.aload_n 0, 1) := by decide +kernel
theorem dX4_readIdentity_21 : decode cX4_readIdentity 21 = .ok (.iconst 0, 1) := by decide +kernel
theorem dX4_readIdentity_22 : decode cX4_readIdentity 22 = .ok (.iconst 1, 1) := by decide +kernel
theorem dX4_readIdentity_23 : decode cX4_readIdentity 23 = .ok (.invokevirtual 24, 3) := by decide +kernel
theorem dX4_readIdentity_26 : decode cX4_readIdentity 26 = .ok (.iload_n 2, 1) := by decide +kernel
theorem dX4_readIdentity_27 : decode cX4_readIdentity 27 = .ok (.ishl, 1) := by decide +kernel
theorem dX4_readIdentity_28 : decode cX4_readIdentity 28 = .ok (.ior, 1) := by decide +kernel
theorem dX4_readIdentity_29 : decode cX4_readIdentity 29 = .ok (.istore_n 1, 1) := by decide +kernel
theorem dX4_readIdentity_30 : decode cX4_readIdentity 30 = .ok (.iinc 2 1, 3) := by decide +kernel
theorem dX4_readIdentity_33 : decode cX4_readIdentity 33 = .ok (.goto (-24), 3) := by decide +kernel
theorem dX4_readIdentity_36 : decode cX4_readIdentity 36 = .ok (.iload_n 1, 1) := by decide +kernel
theorem dX4_readIdentity_37 : decode cX4_readIdentity 37 = .ok (.ireturn, 1) := by decide +kernel
theorem dX4_loadInstruction_0 : decode cX4_loadInstruction 0 = .ok (.aload_n 0, 1) := by decide +kernel
theorem dX4_loadInstruction_1 : decode cX4_loadInstruction 1 = .ok (.bipush 11, 2) := by decide +kernel
theorem dX4_loadInstruction_3 : decode cX4_loadInstruction 3 = .ok (.invokestatic 29, 3) := by decide +kernel
theorem dX4_loadInstruction_6 : decode cX4_loadInstruction 6 = .ok (.pop, 1) := by decide +kernel
theorem dX4_loadInstruction_7 : decode cX4_loadInstruction 7 = .ok (.aload_n 0, 1) := by decide +kernel
theorem dX4_loadInstruction_8 : decode cX4_loadInstruction 8 = .ok (.getfield 47, 3) := by decide +kernel
theorem dX4_loadInstruction_11 : decode cX4_loadInstruction 11 = .ok (.iconst 1, 1) := by decide +kernel
theorem dX4_loadInstruction_12 : decode cX4_loadInstruction 12 = .ok (.isub, 1) := by decide +kernel
theorem dX4_loadInstruction_13 : decode cX4_loadInstruction 13 = .ok (.istore_n 3, 1) := by decide +kernel
theorem dX4_loadInstruction_14 : decode cX4_loadInstruction 14 = .ok (.iload_n 3, 1) := by decide +kernel
theorem dX4_loadInstruction_15 : decode cX4_loadInstruction 15 = .ok (.ifCond .lt 54, 3) := by decide +kernel
theorem dX4_loadInstruction_18 : decode cX4_loadInstruction 18 = .ok (.aload_n 0, 1) := by decide +kernel
theorem dX4_loadInstruction_19 : decode cX4_loadInstruction 19 = .ok (.getfield 50, 3) := by decide +kernel
theorem dX4_loadInstruction_22 : decode cX4_loadInstruction 22 = .ok (.iload_n 3, 1) := by decide +kernel
theorem dX4_loadInstruction_23 : decode cX4_loadInstruction 23 = .ok (.aaload, 1) := by decide +kernel
theorem dX4_loadInstruction_24 : decode cX4_loadInstruction 24 = .ok (.getfield 54, 3) := by decide +kernel
theorem dX4_loadInstruction_27 : decode cX4_loadInstruction 27 = .ok (.istore 4, 2) := by decide +kernel
theorem dX4_loadInstruction_29 : decode cX4_loadInstruction 29 = .ok (.iload_n 3, 1) := by decide +kernel
theorem dX4_loadInstruction_30 : decode cX4_loadInstruction 30 = .ok (.iload_n 1, 1) := by decide +kernel
theorem dX4_loadInstruction_31 : decode cX4_loadInstruction 31 = .ok (.if_icmp .ne 7, 3) := by decide +kernel
theorem dX4_loadInstruction_34 : decode cX4_loadInstruction 34 = .ok (.iload_n 2, 1) := by decide +kernel
theorem dX4_loadInstruction_35 : decode cX4_loadInstruction 35 = .ok (.goto 8, 3) := by decide +kernel
theorem dX4_loadInstruction_38 : decode cX4_loadInstruction 38 = .ok (.iload 4, 2) := by decide +kernel
theorem dX4_loadInstruction_40 : decode cX4_loadInstruction 40 = .ok (.invokestatic 59, 3) := by decide +kernel
theorem dX4_loadInstruction_43 : decode cX4_loadInstruction 43 = .ok (.istore 5, 2) := by decide +kernel
theorem dX4_loadInstruction_45 : decode cX4_loadInstruction 45 = .ok (.aload_n 0, 1) := by decide +kernel
theorem dX4_loadInstruction_46 : decode cX4_loadInstruction 46 = .ok (.iload 5, 2) := by decide +kernel
theorem dX4_loadInstruction_48 : decode cX4_loadInstruction 48 = .ok (.iload 4, 2) := by decide +kernel
theorem dX4_loadInstruction_50 : decode cX4_loadInstruction 50 = .ok (.iload_n 3, 1) := by decide +kernel
theorem dX4_loadInstruction_51 : decode cX4_loadInstruction 51 = .ok (.ifCond .ne 7, 3) := by decide +kernel
theorem dX4_loadInstruction_54 : decode cX4_loadInstruction 54 = .ok (.iconst 1, 1) := by decide +kernel
theorem dX4_loadInstruction_55 : decode cX4_loadInstruction 55 = .ok (.goto 4, 3) := by decide +kernel
theorem dX4_loadInstruction_58 : decode cX4_loadInstruction 58 = .ok (.iconst 0, 1) := by decide +kernel
theorem dX4_loadInstruction_59 : decode cX4_loadInstruction 59 = .ok (.invokestatic 63, 3) := by decide +kernel
theorem dX4_loadInstruction_62 : decode cX4_loadInstruction 62 = .ok (.pop, 1) := by decide +kernel
theorem dX4_loadInstruction_63 : decode cX4_loadInstruction 63 = .ok (.iinc 3 (-1), 3) := by decide +kernel
theorem dX4_loadInstruction_66 : decode cX4_loadInstruction 66 = .ok (.goto (-52), 3) := by decide +kernel
theorem dX4_loadInstruction_69 : decode cX4_loadInstruction 69 = .ok (.aload_n 0, 1) := by decide +kernel
theorem dX4_loadInstruction_70 : decode cX4_loadInstruction 70 = .ok (.iconst 1, 1) := by decide +kernel
theorem dX4_loadInstruction_71 : decode cX4_loadInstruction 71 = .ok (.invokestatic 29, 3) := by decide +kernel
theorem dX4_loadInstruction_74 : decode cX4_loadInstruction 74 = .ok (.pop, 1) := by decide +kernel
theorem dX4_loadInstruction_75 : decode cX4_loadInstruction 75 = .ok (.return_, 1) := by decide +kernel
theorem dX4_exchangeData_0 : decode cX4_exchangeData 0 = .ok (.iconst 0, 1) := by decide +kernel
theorem dX4_exchangeData_1 : decode cX4_exchangeData 1 = .ok (.istore_n 3, 1) := by decide +kernel
theorem dX4_exchangeData_2 : decode cX4_exchangeData 2 = .ok (.aload_n 0, 1) := by decide +kernel
theorem dX4_exchangeData_3 : decode cX4_exchangeData 3 = .ok (.iconst 4, 1) := by decide +kernel
theorem dX4_exchangeData_4 : decode cX4_exchangeData 4 = .ok (.invokestatic 29, 3) := by decide +kernel
theorem dX4_exchangeData_7 : decode cX4_exchangeData 7 = .ok (.pop, 1) := by decide +kernel
theorem dX4_exchangeData_8 : decode cX4_exchangeData 8 = .ok (.aload_n 0, 1) := by decide +kernel
theorem dX4_exchangeData_9 : decode cX4_exchangeData 9 = .ok (.getfield 47, 3) := by decide +kernel
theorem dX4_exchangeData_12 : decode cX4_exchangeData 12 = .ok (.iconst 1, 1) := by decide +kernel
theorem dX4_exchangeData_13 : decode cX4_exchangeData 13 = .ok (.isub, 1) := by decide +kernel
theorem dX4_exchangeData_14 : decode cX4_exchangeData 14 = .ok (.istore 4, 2) := by decide +kernel
theorem dX4_exchangeData_16 : decode cX4_exchangeData 16 = .ok (.iload 4, 2) := by decide +kernel
theorem dX4_exchangeData_18 : decode cX4_exchangeData 18 = .ok (.ifCond .lt 59, 3) := by decide +kernel
theorem dX4_exchangeData_21 : decode cX4_exchangeData 21 = .ok (.iload 4, 2) := by decide +kernel
theorem dX4_exchangeData_23 : decode cX4_exchangeData 23 = .ok (.iload_n 1, 1) := by decide +kernel
theorem dX4_exchangeData_24 : decode cX4_exchangeData 24 = .ok (.if_icmp .ne 7, 3) := by decide +kernel
theorem dX4_exchangeData_27 : decode cX4_exchangeData 27 = .ok (.iload_n 2, 1) := by decide +kernel
theorem dX4_exchangeData_28 : decode cX4_exchangeData 28 = .ok (.goto 4, 3) := by decide +kernel
theorem dX4_exchangeData_31 : decode cX4_exchangeData 31 = .ok (.iconst 0, 1) := by decide +kernel
theorem dX4_exchangeData_32 : decode cX4_exchangeData 32 = .ok (.istore 5, 2) := by decide +kernel
theorem dX4_exchangeData_34 : decode cX4_exchangeData 34 = .ok (.aload_n 0, 1) := by decide +kernel
theorem dX4_exchangeData_35 : decode cX4_exchangeData 35 = .ok (.iload 5, 2) := by decide +kernel
theorem dX4_exchangeData_37 : decode cX4_exchangeData 37 = .ok (.aload_n 0, 1) := by decide +kernel
theorem dX4_exchangeData_38 : decode cX4_exchangeData 38 = .ok (.getfield 50, 3) := by decide +kernel
theorem dX4_exchangeData_41 : decode cX4_exchangeData 41 = .ok (.iload 4, 2) := by decide +kernel
theorem dX4_exchangeData_43 : decode cX4_exchangeData 43 = .ok (.aaload, 1) := by decide +kernel
theorem dX4_exchangeData_44 : decode cX4_exchangeData 44 = .ok (.invokevirtual 67, 3) := by decide +kernel
theorem dX4_exchangeData_47 : decode cX4_exchangeData 47 = .ok (.iload 4, 2) := by decide +kernel
theorem dX4_exchangeData_49 : decode cX4_exchangeData 49 = .ok (.ifCond .ne 7, 3) := by decide +kernel
theorem dX4_exchangeData_52 : decode cX4_exchangeData 52 = .ok (.iconst 1, 1) := by decide +kernel
theorem dX4_exchangeData_53 : decode cX4_exchangeData 53 = .ok (.goto 4, 3) := by decide +kernel
theorem dX4_exchangeData_56 : decode cX4_exchangeData 56 = .ok (.iconst 0, 1) := by decide +kernel
theorem dX4_exchangeData_57 : decode cX4_exchangeData 57 = .ok (.invokestatic 63, 3) := by decide +kernel
theorem dX4_exchangeData_60 : decode cX4_exchangeData 60 = .ok (.istore 6, 2) := by decide +kernel
theorem dX4_exchangeData_62 : decode cX4_exchangeData 62 = .ok (.iload 4, 2) := by decide +kernel
theorem dX4_exchangeData_64 : decode cX4_exchangeData 64 = .ok (.iload_n 1, 1) := by decide +kernel
theorem dX4_exchangeData_65 : decode cX4_exchangeData 65 = .ok (.if_icmp .ne 6, 3) := by decide +kernel
theorem dX4_exchangeData_68 : decode cX4_exchangeData 68 = .ok (.iload 6, 2) := by decide +kernel
theorem dX4_exchangeData_70 : decode cX4_exchangeData 70 = .ok (.istore_n 3, 1) := by decide +kernel
theorem dX4_exchangeData_71 : decode cX4_exchangeData 71 = .ok (.iinc 4 (-1), 3) := by decide +kernel
theorem dX4_exchangeData_74 : decode cX4_exchangeData 74 = .ok (.goto (-58), 3) := by decide +kernel
theorem dX4_exchangeData_77 : decode cX4_exchangeData 77 = .ok (.aload_n 0, 1) := by decide +kernel
theorem dX4_exchangeData_78 : decode cX4_exchangeData 78 = .ok (.iconst 1, 1) := by decide +kernel
theorem dX4_exchangeData_79 : decode cX4_exchangeData 79 = .ok (.invokestatic 29, 3) := by decide +kernel
theorem dX4_exchangeData_82 : decode cX4_exchangeData 82 = .ok (.pop, 1) := by decide +kernel
theorem dX4_exchangeData_83 : decode cX4_exchangeData 83 = .ok (.iload_n 3, 1) := by decide +kernel
theorem dX4_exchangeData_84 : decode cX4_exchangeData 84 = .ok (.ireturn, 1) := by decide +kernel
theorem dX4_shiftThrough_0 : decode cX4_shiftThrough 0 = .ok (.iconst 0, 1) := by decide +kernel
theorem dX4_shiftThrough_1 : decode cX4_shiftThrough 1 = .ok (.istore 4, 2) := by decide +kernel
theorem dX4_shiftThrough_3 : decode cX4_shiftThrough 3 = .ok (.iconst 0, 1) := by decide +kernel
theorem dX4_shiftThrough_4 : decode cX4_shiftThrough 4 = .ok (.istore 5, 2) := by decide +kernel
theorem dX4_shiftThrough_6 : decode cX4_shiftThrough 6 = .ok (.iload 5, 2) := by decide +kernel
theorem dX4_shiftThrough_8 : decode cX4_shiftThrough 8 = .ok (.iload_n 2, 1) := by decide +kernel
theorem dX4_shiftThrough_9 : decode cX4_shiftThrough 9 = .ok (.if_icmp .ge 48, 3) := by decide +kernel
theorem dX4_shiftThrough_12 : decode cX4_shiftThrough 12 = .ok (.iload_n 3, 1) := by decide +kernel
theorem dX4_shiftThrough_13 : decode cX4_shiftThrough 13 = .ok (.ifCond .eq 15, 3) := by decide +kernel
theorem dX4_shiftThrough_16 : decode cX4_shiftThrough 16 = .ok (.iload 5, 2) := by decide +kernel
theorem dX4_shiftThrough_18 : decode cX4_shiftThrough 18 = .ok (.iload_n 2, 1) := by decide +kernel
theorem dX4_shiftThrough_19 : decode cX4_shiftThrough 19 = .ok (.iconst 1, 1) := by decide +kernel
theorem dX4_shiftThrough_20 : decode cX4_shiftThrough 20 = .ok (.isub, 1) := by decide +kernel
theorem dX4_shiftThrough_21 : decode cX4_shiftThrough 21 = .ok (.if_icmp .ne 7, 3) := by decide +kernel
theorem dX4_shiftThrough_24 : decode cX4_shiftThrough 24 = .ok (.iconst 1, 1) := by decide +kernel
theorem dX4_shiftThrough_25 : decode cX4_shiftThrough 25 = .ok (.goto 4, 3) := by decide +kernel
theorem dX4_shiftThrough_28 : decode cX4_shiftThrough 28 = .ok (.iconst 0, 1) := by decide +kernel
theorem dX4_shiftThrough_29 : decode cX4_shiftThrough 29 = .ok (.istore 6, 2) := by decide +kernel
theorem dX4_shiftThrough_31 : decode cX4_shiftThrough 31 = .ok (.iload 4, 2) := by decide +kernel
theorem dX4_shiftThrough_33 : decode cX4_shiftThrough 33 = .ok (.aload_n 0, 1) := by decide +kernel
theorem dX4_shiftThrough_34 : decode cX4_shiftThrough 34 = .ok (.iload 6, 2) := by decide +kernel
theorem dX4_shiftThrough_36 : decode cX4_shiftThrough 36 = .ok (.iload_n 1, 1) := by decide +kernel
theorem dX4_shiftThrough_37 : decode cX4_shiftThrough 37 = .ok (.iload 5, 2) := by decide +kernel
theorem dX4_shiftThrough_39 : decode cX4_shiftThrough 39 = .ok (.ishr, 1) := by decide +kernel
theorem dX4_shiftThrough_40 : decode cX4_shiftThrough 40 = .ok (.iconst 1, 1) := by decide +kernel
theorem dX4_shiftThrough_41 : decode cX4_shiftThrough 41 = .ok (.iand, 1) := by decide +kernel
theorem dX4_shiftThrough_42 : decode cX4_shiftThrough 42 = .ok (.invokevirtual 24, 3) := by decide +kernel
theorem dX4_shiftThrough_45 : decode cX4_shiftThrough 45 = .ok (.iload 5, 2) := by decide +kernel
theorem dX4_shiftThrough_47 : decode cX4_shiftThrough 47 = .ok (.ishl, 1) := by decide +kernel
theorem dX4_shiftThrough_48 : decode cX4_shiftThrough 48 = .ok (.ior, 1) := by decide +kernel
theorem dX4_shiftThrough_49 : decode cX4_shiftThrough 49 = .ok (.istore 4, 2) := by decide +kernel
theorem dX4_shiftThrough_51 : decode cX4_shiftThrough 51 = .ok (.iinc 5 1, 3) := by decide +kernel
theorem dX4_shiftThrough_54 : decode cX4_shiftThrough 54 = .ok (.goto (-48), 3) := by decide +kernel
theorem dX4_shiftThrough_57 : decode cX4_shiftThrough 57 = .ok (.iload 4, 2) := by decide +kernel
theorem dX4_shiftThrough_59 : decode cX4_shiftThrough 59 = .ok (.ireturn, 1) := by decide +kernel
theorem dX4_carryOut_0 : decode cX4_carryOut 0 = .ok (.iconst 0, 1) := by decide +kernel
theorem dX4_carryOut_1 : decode cX4_carryOut 1 = .ok (.istore_n 2, 1) := by decide +kernel
theorem dX4_carryOut_2 : decode cX4_carryOut 2 = .ok (.iconst 0, 1) := by decide +kernel
theorem dX4_carryOut_3 : decode cX4_carryOut 3 = .ok (.istore_n 3, 1) := by decide +kernel
theorem dX4_carryOut_4 : decode cX4_carryOut 4 = .ok (.iconst 0, 1) := by decide +kernel
theorem dX4_carryOut_5 : decode cX4_carryOut 5 = .ok (.istore 4, 2) := by decide +kernel
theorem dX4_carryOut_7 : decode cX4_carryOut 7 = .ok (.iload 4, 2) := by decide +kernel
theorem dX4_carryOut_9 : decode cX4_carryOut 9 = .ok (.aload_n 1, 1) := by decide +kernel
theorem dX4_carryOut_10 : decode cX4_carryOut 10 = .ok (.getfield 71, 3) := by decide +kernel
theorem dX4_carryOut_13 : decode cX4_carryOut 13 = .ok (.if_icmp .ge 82, 3) := by decide +kernel
theorem dX4_carryOut_16 : decode cX4_carryOut 16 = .ok (.aload_n 1, 1) := by decide +kernel
theorem dX4_carryOut_17 : decode cX4_carryOut 17 = .ok (.getfield 76, 3) := by decide +kernel
theorem dX4_carryOut_20 : decode cX4_carryOut 20 = .ok (.iload 4, 2) := by decide +kernel
theorem dX4_carryOut_22 : decode cX4_carryOut 22 = .ok (.caload, 1) := by decide +kernel
theorem dX4_carryOut_23 : decode cX4_carryOut 23 = .ok (.istore 5, 2) := by decide +kernel
theorem dX4_carryOut_25 : decode cX4_carryOut 25 = .ok (.iload 5, 2) := by decide +kernel
theorem dX4_carryOut_27 : decode cX4_carryOut 27 = .ok (.bipush 63, 2) := by decide +kernel
theorem dX4_carryOut_29 : decode cX4_carryOut 29 = .ok (.if_icmp .ne 30, 3) := by decide +kernel
theorem dX4_carryOut_32 : decode cX4_carryOut 32 = .ok (.aload_n 0, 1) := by decide +kernel
theorem dX4_carryOut_33 : decode cX4_carryOut 33 = .ok (.iconst 0, 1) := by decide +kernel
theorem dX4_carryOut_34 : decode cX4_carryOut 34 = .ok (.iconst 1, 1) := by decide +kernel
theorem dX4_carryOut_35 : decode cX4_carryOut 35 = .ok (.invokevirtual 24, 3) := by decide +kernel
theorem dX4_carryOut_38 : decode cX4_carryOut 38 = .ok (.istore 6, 2) := by decide +kernel
theorem dX4_carryOut_40 : decode cX4_carryOut 40 = .ok (.iload_n 3, 1) := by decide +kernel
theorem dX4_carryOut_41 : decode cX4_carryOut 41 = .ok (.bipush 30, 2) := by decide +kernel
theorem dX4_carryOut_43 : decode cX4_carryOut 43 = .ok (.if_icmp .ge 13, 3) := by decide +kernel
theorem dX4_carryOut_46 : decode cX4_carryOut 46 = .ok (.iload_n 2, 1) := by decide +kernel
theorem dX4_carryOut_47 : decode cX4_carryOut 47 = .ok (.iload 6, 2) := by decide +kernel
theorem dX4_carryOut_49 : decode cX4_carryOut 49 = .ok (.iload_n 3, 1) := by decide +kernel
theorem dX4_carryOut_50 : decode cX4_carryOut 50 = .ok (.ishl, 1) := by decide +kernel
theorem dX4_carryOut_51 : decode cX4_carryOut 51 = .ok (.ior, 1) := by decide +kernel
theorem dX4_carryOut_52 : decode cX4_carryOut 52 = .ok (.istore_n 2, 1) := by decide +kernel
theorem dX4_carryOut_53 : decode cX4_carryOut 53 = .ok (.iinc 3 1, 3) := by decide +kernel
theorem dX4_carryOut_56 : decode cX4_carryOut 56 = .ok (.goto 33, 3) := by decide +kernel
theorem dX4_carryOut_59 : decode cX4_carryOut 59 = .ok (.iload 5, 2) := by decide +kernel
theorem dX4_carryOut_61 : decode cX4_carryOut 61 = .ok (.bipush 64, 2) := by decide +kernel
theorem dX4_carryOut_63 : decode cX4_carryOut 63 = .ok (.if_icmp .ne 20, 3) := by decide +kernel
theorem dX4_carryOut_66 : decode cX4_carryOut 66 = .ok (.iinc 4 1, 3) := by decide +kernel
theorem dX4_carryOut_69 : decode cX4_carryOut 69 = .ok (.aload_n 0, 1) := by decide +kernel
theorem dX4_carryOut_70 : decode cX4_carryOut 70 = .ok (.aload_n 1, 1) := by decide +kernel
theorem dX4_carryOut_71 : decode cX4_carryOut 71 = .ok (.iload 4, 2) := by decide +kernel
theorem dX4_carryOut_73 : decode cX4_carryOut 73 = .ok (.invokevirtual 80, 3) := by decide +kernel
theorem dX4_carryOut_76 : decode cX4_carryOut 76 = .ok (.invokestatic 29, 3) := by decide +kernel
theorem dX4_carryOut_79 : decode cX4_carryOut 79 = .ok (.pop, 1) := by decide +kernel
theorem dX4_carryOut_80 : decode cX4_carryOut 80 = .ok (.goto 9, 3) := by decide +kernel
theorem dX4_carryOut_83 : decode cX4_carryOut 83 = .ok (.aload_n 0, 1) := by decide +kernel
theorem dX4_carryOut_84 : decode cX4_carryOut 84 = .ok (.iload 5, 2) := by decide +kernel
theorem dX4_carryOut_86 : decode cX4_carryOut 86 = .ok (.invokestatic 83, 3) := by decide +kernel
theorem dX4_carryOut_89 : decode cX4_carryOut 89 = .ok (.iinc 4 1, 3) := by decide +kernel
theorem dX4_carryOut_92 : decode cX4_carryOut 92 = .ok (.goto (-85), 3) := by decide +kernel
theorem dX4_carryOut_95 : decode cX4_carryOut 95 = .ok (.iload_n 2, 1) := by decide +kernel
theorem dX4_carryOut_96 : decode cX4_carryOut 96 = .ok (.ireturn, 1) := by decide +kernel
theorem dX4_clockItem_0 : decode cX4_clockItem 0 = .ok (.iload_n 1, 1) := by decide +kernel
theorem dX4_clockItem_1 : decode cX4_clockItem 1 = .ok (.bipush 97, 2) := by decide +kernel
theorem dX4_clockItem_3 : decode cX4_clockItem 3 = .ok (.if_icmp .eq 9, 3) := by decide +kernel
theorem dX4_clockItem_6 : decode cX4_clockItem 6 = .ok (.iload_n 1, 1) := by decide +kernel
theorem dX4_clockItem_7 : decode cX4_clockItem 7 = .ok (.bipush 98, 2) := by decide +kernel
theorem dX4_clockItem_9 : decode cX4_clockItem 9 = .ok (.if_icmp .ne 7, 3) := by decide +kernel
theorem dX4_clockItem_12 : decode cX4_clockItem 12 = .ok (.iconst 1, 1) := by decide +kernel
theorem dX4_clockItem_13 : decode cX4_clockItem 13 = .ok (.goto 4, 3) := by decide +kernel
theorem dX4_clockItem_16 : decode cX4_clockItem 16 = .ok (.iconst 0, 1) := by decide +kernel
theorem dX4_clockItem_17 : decode cX4_clockItem 17 = .ok (.istore_n 2, 1) := by decide +kernel
theorem dX4_clockItem_18 : decode cX4_clockItem 18 = .ok (.iload_n 1, 1) := by decide +kernel
theorem dX4_clockItem_19 : decode cX4_clockItem 19 = .ok (.bipush 49, 2) := by decide +kernel
theorem dX4_clockItem_21 : decode cX4_clockItem 21 = .ok (.if_icmp .eq 9, 3) := by decide +kernel
theorem dX4_clockItem_24 : decode cX4_clockItem 24 = .ok (.iload_n 1, 1) := by decide +kernel
theorem dX4_clockItem_25 : decode cX4_clockItem 25 = .ok (.bipush 98, 2) := by decide +kernel
theorem dX4_clockItem_27 : decode cX4_clockItem 27 = .ok (.if_icmp .ne 7, 3) := by decide +kernel
theorem dX4_clockItem_30 : decode cX4_clockItem 30 = .ok (.iconst 1, 1) := by decide +kernel
theorem dX4_clockItem_31 : decode cX4_clockItem 31 = .ok (.goto 4, 3) := by decide +kernel
theorem dX4_clockItem_34 : decode cX4_clockItem 34 = .ok (.iconst 0, 1) := by decide +kernel
theorem dX4_clockItem_35 : decode cX4_clockItem 35 = .ok (.istore_n 3, 1) := by decide +kernel
theorem dX4_clockItem_36 : decode cX4_clockItem 36 = .ok (.aload_n 0, 1) := by decide +kernel
theorem dX4_clockItem_37 : decode cX4_clockItem 37 = .ok (.iload_n 2, 1) := by decide +kernel
theorem dX4_clockItem_38 : decode cX4_clockItem 38 = .ok (.iload_n 3, 1) := by decide +kernel
theorem dX4_clockItem_39 : decode cX4_clockItem 39 = .ok (.invokevirtual 24, 3) := by decide +kernel
theorem dX4_clockItem_42 : decode cX4_clockItem 42 = .ok (.pop, 1) := by decide +kernel
theorem dX4_clockItem_43 : decode cX4_clockItem 43 = .ok (.return_, 1) := by decide +kernel
theorem dX5_init_0 : decode cX5_init 0 = .ok (.aload_n 0, 1) := by decide +kernel
theorem dX5_init_1 : decode cX5_init 1 = .ok (.invokespecial 3, 3) := by decide +kernel
theorem dX5_init_4 : decode cX5_init 4 = .ok (.aload_n 0, 1) := by decide +kernel
theorem dX5_init_5 : decode cX5_init 5 = .ok (.bipush 80, 2) := by decide +kernel
theorem dX5_init_7 : decode cX5_init 7 = .ok (.newarray .char, 2) := by decide +kernel
theorem dX5_init_9 : decode cX5_init 9 = .ok (.putfield 9, 3) := by decide +kernel
theorem dX5_init_12 : decode cX5_init 12 = .ok (.aload_n 0, 1) := by decide +kernel
theorem dX5_init_13 : decode cX5_init 13 = .ok (.iconst 0, 1) := by decide +kernel
theorem dX5_init_14 : decode cX5_init 14 = .ok (.putfield 15, 3) := by decide +kernel
theorem dX5_init_17 : decode cX5_init 17 = .ok (.return_, 1) := by decide +kernel
theorem dX5_write_0 : decode cX5_write 0 = .ok (.aload_n 0, 1) := by decide +kernel
theorem dX5_write_1 : decode cX5_write 1 = .ok (.getfield 15, 3) := by decide +kernel
theorem dX5_write_4 : decode cX5_write 4 = .ok (.aload_n 0, 1) := by decide +kernel
theorem dX5_write_5 : decode cX5_write 5 = .ok (.getfield 9, 3) := by decide +kernel
theorem dX5_write_8 : decode cX5_write 8 = .ok (.arraylength, 1) := by decide +kernel
theorem dX5_write_9 : decode cX5_write 9 = .ok (.if_icmp .ge 24, 3) := by decide +kernel
theorem dX5_write_12 : decode cX5_write 12 = .ok (.aload_n 0, 1) := by decide +kernel
theorem dX5_write_13 : decode cX5_write 13 = .ok (.getfield 9, 3) := by decide +kernel
theorem dX5_write_16 : decode cX5_write 16 = .ok (.aload_n 0, 1) := by decide +kernel
theorem dX5_write_17 : decode cX5_write 17 = .ok (.getfield 15, 3) := by decide +kernel
theorem dX5_write_20 : decode cX5_write 20 = .ok (.iload_n 1, 1) := by decide +kernel
theorem dX5_write_21 : decode cX5_write 21 = .ok (.i2c, 1) := by decide +kernel
theorem dX5_write_22 : decode cX5_write 22 = .ok (.castore, 1) := by decide +kernel
theorem dX5_write_23 : decode cX5_write 23 = .ok (.aload_n 0, 1) := by decide +kernel
theorem dX5_write_24 : decode cX5_write 24 = .ok (.dup, 1) := by decide +kernel
theorem dX5_write_25 : decode cX5_write 25 = .ok (.getfield 15, 3) := by decide +kernel
theorem dX5_write_28 : decode cX5_write 28 = .ok (.iconst 1, 1) := by decide +kernel
theorem dX5_write_29 : decode cX5_write 29 = .ok (.iadd, 1) := by decide +kernel
theorem dX5_write_30 : decode cX5_write 30 = .ok (.putfield 15, 3) := by decide +kernel
theorem dX5_write_33 : decode cX5_write 33 = .ok (.aload_n 0, 1) := by decide +kernel
theorem dX5_write_34 : decode cX5_write 34 = .ok (.getfield 15, 3) := by decide +kernel
theorem dX5_write_37 : decode cX5_write 37 = .ok (.ireturn, 1) := by decide +kernel
theorem dX5_wipe_0 : decode cX5_wipe 0 = .ok (.aload_n 0, 1) := by decide +kernel
theorem dX5_wipe_1 : decode cX5_wipe 1 = .ok (.getfield 15, 3) := by decide +kernel
theorem dX5_wipe_4 : decode cX5_wipe 4 = .ok (.istore_n 1, 1) := by decide +kernel
theorem dX5_wipe_5 : decode cX5_wipe 5 = .ok (.aload_n 0, 1) := by decide +kernel
theorem dX5_wipe_6 : decode cX5_wipe 6 = .ok (.iconst 0, 1) := by decide +kernel
theorem dX5_wipe_7 : decode cX5_wipe 7 = .ok (.putfield 15, 3) := by decide +kernel
theorem dX5_wipe_10 : decode cX5_wipe 10 = .ok (.iload_n 1, 1) := by decide +kernel
theorem dX5_wipe_11 : decode cX5_wipe 11 = .ok (.ireturn, 1) := by decide +kernel
theorem dX5_firstFault_0 : decode cX5_firstFault 0 = .ok (.iconst 0, 1) := by decide +kernel
theorem dX5_firstFault_1 : decode cX5_firstFault 1 = .ok (.istore_n 1, 1) := by decide +kernel
theorem dX5_firstFault_2 : decode cX5_firstFault 2 = .ok (.iconst 0, 1) := by decide +kernel
theorem dX5_firstFault_3 : decode cX5_firstFault 3 = .ok (.istore_n 2, 1) := by decide +kernel
theorem dX5_firstFault_4 : decode cX5_firstFault 4 = .ok (.iload_n 2, 1) := by decide +kernel
theorem dX5_firstFault_5 : decode cX5_firstFault 5 = .ok (.aload_n 0, 1) := by decide +kernel
theorem dX5_firstFault_6 : decode cX5_firstFault 6 = .ok (.getfield 15, 3) := by decide +kernel
theorem dX5_firstFault_9 : decode cX5_firstFault 9 = .ok (.if_icmp .ge 65, 3) := by decide +kernel
theorem dX5_firstFault_12 : decode cX5_firstFault 12 = .ok (.aload_n 0, 1) := by decide +kernel
theorem dX5_firstFault_13 : decode cX5_firstFault 13 = .ok (.getfield 9, 3) := by decide +kernel
theorem dX5_firstFault_16 : decode cX5_firstFault 16 = .ok (.iload_n 2, 1) := by decide +kernel
theorem dX5_firstFault_17 : decode cX5_firstFault 17 = .ok (.caload, 1) := by decide +kernel
theorem dX5_firstFault_18 : decode cX5_firstFault 18 = .ok (.istore_n 3, 1) := by decide +kernel
theorem dX5_firstFault_19 : decode cX5_firstFault 19 = .ok (.iload_n 1, 1) := by decide +kernel
theorem dX5_firstFault_20 : decode cX5_firstFault 20 = .ok (.ifCond .eq 19, 3) := by decide +kernel
theorem dX5_firstFault_23 : decode cX5_firstFault 23 = .ok (.iload_n 3, 1) := by decide +kernel
theorem dX5_firstFault_24 : decode cX5_firstFault 24 = .ok (.invokestatic 19, 3) := by decide +kernel
theorem dX5_firstFault_27 : decode cX5_firstFault 27 = .ok (.iconst (-1), 1) := by decide +kernel
theorem dX5_firstFault_28 : decode cX5_firstFault 28 = .ok (.if_icmp .eq 7, 3) := by decide +kernel
theorem dX5_firstFault_31 : decode cX5_firstFault 31 = .ok (.iconst 1, 1) := by decide +kernel
theorem dX5_firstFault_32 : decode cX5_firstFault 32 = .ok (.goto 11, 3) := by decide +kernel
theorem dX5_firstFault_35 : decode cX5_firstFault 35 = .ok (.iconst 0, 1) := by decide +kernel
theorem dX5_firstFault_36 : decode cX5_firstFault 36 = .ok (.goto 7, 3) := by decide +kernel
theorem dX5_firstFault_39 : decode cX5_firstFault 39 = .ok (.iload_n 3, 1) := by decide +kernel
theorem dX5_firstFault_40 : decode cX5_firstFault 40 = .ok (.invokestatic 23, 3) := by decide +kernel
theorem dX5_firstFault_43 : decode cX5_firstFault 43 = .ok (.istore 4, 2) := by decide +kernel
theorem dX5_firstFault_45 : decode cX5_firstFault 45 = .ok (.iload 4, 2) := by decide +kernel
theorem dX5_firstFault_47 : decode cX5_firstFault 47 = .ok (.ifCond .ne 5, 3) := by decide +kernel
theorem dX5_firstFault_50 : decode cX5_firstFault 50 = .ok (.iload_n 2, 1) := by decide +kernel
theorem dX5_firstFault_51 : decode cX5_firstFault 51 = .ok (.ireturn, 1) := by decide +kernel
theorem dX5_firstFault_52 : decode cX5_firstFault 52 = .ok (.iload_n 1, 1) := by decide +kernel
theorem dX5_firstFault_53 : decode cX5_firstFault 53 = .ok (.ifCond .ne 13, 3) := by decide +kernel
theorem dX5_firstFault_56 : decode cX5_firstFault 56 = .ok (.iload_n 3, 1) := by decide +kernel
theorem dX5_firstFault_57 : decode cX5_firstFault 57 = .ok (.bipush 64, 2) := by decide +kernel
theorem dX5_firstFault_59 : decode cX5_firstFault 59 = .ok (.if_icmp .ne 7, 3) := by decide +kernel
theorem dX5_firstFault_62 : decode cX5_firstFault 62 = .ok (.iconst 1, 1) := by decide +kernel
theorem dX5_firstFault_63 : decode cX5_firstFault 63 = .ok (.goto 4, 3) := by decide +kernel
theorem dX5_firstFault_66 : decode cX5_firstFault 66 = .ok (.iconst 0, 1) := by decide +kernel
theorem dX5_firstFault_67 : decode cX5_firstFault 67 = .ok (.istore_n 1, 1) := by decide +kernel
theorem dX5_firstFault_68 : decode cX5_firstFault 68 = .ok (.iinc 2 1, 3) := by decide +kernel
theorem dX5_firstFault_71 : decode cX5_firstFault 71 = .ok (.goto (-67), 3) := by decide +kernel
theorem dX5_firstFault_74 : decode cX5_firstFault 74 = .ok (.aload_n 0, 1) := by decide +kernel
theorem dX5_firstFault_75 : decode cX5_firstFault 75 = .ok (.getfield 15, 3) := by decide +kernel
theorem dX5_firstFault_78 : decode cX5_firstFault 78 = .ok (.ifCond .le 11, 3) := by decide +kernel
theorem dX5_firstFault_81 : decode cX5_firstFault 81 = .ok (.iload_n 1, 1) := by decide +kernel
theorem dX5_firstFault_82 : decode cX5_firstFault 82 = .ok (.ifCond .ne 7, 3) := by decide +kernel
theorem dX5_firstFault_85 : decode cX5_firstFault 85 = .ok (.iconst 1, 1) := by decide +kernel
theorem dX5_firstFault_86 : decode cX5_firstFault 86 = .ok (.goto 4, 3) := by decide +kernel
theorem dX5_firstFault_89 : decode cX5_firstFault 89 = .ok (.iconst 0, 1) := by decide +kernel
theorem dX5_firstFault_90 : decode cX5_firstFault 90 = .ok (.istore_n 2, 1) := by decide +kernel
theorem dX5_firstFault_91 : decode cX5_firstFault 91 = .ok (.iload_n 2, 1) := by decide +kernel
theorem dX5_firstFault_92 : decode cX5_firstFault 92 = .ok (.ifCond .eq 8, 3) := by decide +kernel
theorem dX5_firstFault_95 : decode cX5_firstFault 95 = .ok (.bipush (-4), 2) := by decide +kernel
theorem dX5_firstFault_97 : decode cX5_firstFault 97 = .ok (.goto 7, 3) := by decide +kernel
theorem dX5_firstFault_100 : decode cX5_firstFault 100 = .ok (.aload_n 0, 1) := by decide +kernel
theorem dX5_firstFault_101 : decode cX5_firstFault 101 = .ok (.getfield 15, 3) := by decide +kernel
theorem dX5_firstFault_104 : decode cX5_firstFault 104 = .ok (.ireturn, 1) := by decide +kernel
theorem dX5_hexAt_0 : decode cX5_hexAt 0 = .ok (.iload_n 1, 1) := by decide +kernel
theorem dX5_hexAt_1 : decode cX5_hexAt 1 = .ok (.ifCond .lt 23, 3) := by decide +kernel
theorem dX5_hexAt_4 : decode cX5_hexAt 4 = .ok (.iload_n 1, 1) := by decide +kernel
theorem dX5_hexAt_5 : decode cX5_hexAt 5 = .ok (.aload_n 0, 1) := by decide +kernel
theorem dX5_hexAt_6 : decode cX5_hexAt 6 = .ok (.getfield 15, 3) := by decide +kernel
theorem dX5_hexAt_9 : decode cX5_hexAt 9 = .ok (.if_icmp .ge 15, 3) := by decide +kernel
theorem dX5_hexAt_12 : decode cX5_hexAt 12 = .ok (.aload_n 0, 1) := by decide +kernel
theorem dX5_hexAt_13 : decode cX5_hexAt 13 = .ok (.getfield 9, 3) := by decide +kernel
theorem dX5_hexAt_16 : decode cX5_hexAt 16 = .ok (.iload_n 1, 1) := by decide +kernel
theorem dX5_hexAt_17 : decode cX5_hexAt 17 = .ok (.caload, 1) := by decide +kernel
theorem dX5_hexAt_18 : decode cX5_hexAt 18 = .ok (.invokestatic 19, 3) := by decide +kernel
theorem dX5_hexAt_21 : decode cX5_hexAt 21 = .ok (.goto 4, 3) := by decide +kernel
theorem dX5_hexAt_24 : decode cX5_hexAt 24 = .ok (.iconst (-1), 1) := by decide +kernel
theorem dX5_hexAt_25 : decode cX5_hexAt 25 = .ok (.ireturn, 1) := by decide +kernel
theorem dX5_startsItem_0 : decode cX5_startsItem 0 = .ok (.iload_n 0, 1) := by decide +kernel
theorem dX5_startsItem_1 : decode cX5_startsItem 1 = .ok (.bipush 48, 2) := by decide +kernel
theorem dX5_startsItem_3 : decode cX5_startsItem 3 = .ok (.if_icmp .eq 33, 3) := by decide +kernel
theorem dX5_startsItem_6 : decode cX5_startsItem 6 = .ok (.iload_n 0, 1) := by decide +kernel
theorem dX5_startsItem_7 : decode cX5_startsItem 7 = .ok (.bipush 49, 2) := by decide +kernel
theorem dX5_startsItem_9 : decode cX5_startsItem 9 = .ok (.if_icmp .eq 27, 3) := by decide +kernel
theorem dX5_startsItem_12 : decode cX5_startsItem 12 = .ok (.iload_n 0, 1) := by decide +kernel
theorem dX5_startsItem_13 : decode cX5_startsItem 13 = .ok (.bipush 97, 2) := by decide +kernel
theorem dX5_startsItem_15 : decode cX5_startsItem 15 = .ok (.if_icmp .eq 21, 3) := by decide +kernel
theorem dX5_startsItem_18 : decode cX5_startsItem 18 = .ok (.iload_n 0, 1) := by decide +kernel
theorem dX5_startsItem_19 : decode cX5_startsItem 19 = .ok (.bipush 98, 2) := by decide +kernel
theorem dX5_startsItem_21 : decode cX5_startsItem 21 = .ok (.if_icmp .eq 15, 3) := by decide +kernel
theorem dX5_startsItem_24 : decode cX5_startsItem 24 = .ok (.iload_n 0, 1) := by decide +kernel
theorem dX5_startsItem_25 : decode cX5_startsItem 25 = .ok (.bipush 63, 2) := by decide +kernel
theorem dX5_startsItem_27 : decode cX5_startsItem 27 = .ok (.if_icmp .eq 9, 3) := by decide +kernel
theorem dX5_startsItem_30 : decode cX5_startsItem 30 = .ok (.iload_n 0, 1) := by decide +kernel
theorem dX5_startsItem_31 : decode cX5_startsItem 31 = .ok (.bipush 64, 2) := by decide +kernel
theorem dX5_startsItem_33 : decode cX5_startsItem 33 = .ok (.if_icmp .ne 7, 3) := by decide +kernel
theorem dX5_startsItem_36 : decode cX5_startsItem 36 = .ok (.iconst 1, 1) := by decide +kernel
theorem dX5_startsItem_37 : decode cX5_startsItem 37 = .ok (.goto 4, 3) := by decide +kernel
theorem dX5_startsItem_40 : decode cX5_startsItem 40 = .ok (.iconst 0, 1) := by decide +kernel
theorem dX5_startsItem_41 : decode cX5_startsItem 41 = .ok (.ireturn, 1) := by decide +kernel
theorem dX5_hexValue_0 : decode cX5_hexValue 0 = .ok (.iload_n 0, 1) := by decide +kernel
theorem dX5_hexValue_1 : decode cX5_hexValue 1 = .ok (.bipush 48, 2) := by decide +kernel
theorem dX5_hexValue_3 : decode cX5_hexValue 3 = .ok (.if_icmp .lt 14, 3) := by decide +kernel
theorem dX5_hexValue_6 : decode cX5_hexValue 6 = .ok (.iload_n 0, 1) := by decide +kernel
theorem dX5_hexValue_7 : decode cX5_hexValue 7 = .ok (.bipush 57, 2) := by decide +kernel
theorem dX5_hexValue_9 : decode cX5_hexValue 9 = .ok (.if_icmp .gt 8, 3) := by decide +kernel
theorem dX5_hexValue_12 : decode cX5_hexValue 12 = .ok (.iload_n 0, 1) := by decide +kernel
theorem dX5_hexValue_13 : decode cX5_hexValue 13 = .ok (.bipush 48, 2) := by decide +kernel
theorem dX5_hexValue_15 : decode cX5_hexValue 15 = .ok (.isub, 1) := by decide +kernel
theorem dX5_hexValue_16 : decode cX5_hexValue 16 = .ok (.ireturn, 1) := by decide +kernel
theorem dX5_hexValue_17 : decode cX5_hexValue 17 = .ok (.iload_n 0, 1) := by decide +kernel
theorem dX5_hexValue_18 : decode cX5_hexValue 18 = .ok (.bipush 97, 2) := by decide +kernel
theorem dX5_hexValue_20 : decode cX5_hexValue 20 = .ok (.if_icmp .lt 17, 3) := by decide +kernel
theorem dX5_hexValue_23 : decode cX5_hexValue 23 = .ok (.iload_n 0, 1) := by decide +kernel
theorem dX5_hexValue_24 : decode cX5_hexValue 24 = .ok (.bipush 102, 2) := by decide +kernel
theorem dX5_hexValue_26 : decode cX5_hexValue 26 = .ok (.if_icmp .gt 11, 3) := by decide +kernel
theorem dX5_hexValue_29 : decode cX5_hexValue 29 = .ok (.iload_n 0, 1) := by decide +kernel
theorem dX5_hexValue_30 : decode cX5_hexValue 30 = .ok (.bipush 97, 2) := by decide +kernel
theorem dX5_hexValue_32 : decode cX5_hexValue 32 = .ok (.isub, 1) := by decide +kernel
theorem dX5_hexValue_33 : decode cX5_hexValue 33 = .ok (.bipush 10, 2) := by decide +kernel
theorem dX5_hexValue_35 : decode cX5_hexValue 35 = .ok (.iadd, 1) := by decide +kernel
theorem dX5_hexValue_36 : decode cX5_hexValue 36 = .ok (.ireturn, 1) := by decide +kernel
theorem dX5_hexValue_37 : decode cX5_hexValue 37 = .ok (.iconst (-1), 1) := by decide +kernel
theorem dX5_hexValue_38 : decode cX5_hexValue 38 = .ok (.ireturn, 1) := by decide +kernel
theorem dX6_init_0 : decode cX6_init 0 = .ok (.aload_n 0, 1) := by decide +kernel
theorem dX6_init_1 : decode cX6_init 1 = .ok (.invokespecial 1, 3) := by decide +kernel
theorem dX6_init_4 : decode cX6_init 4 = .ok (.aload_n 0, 1) := by decide +kernel
theorem dX6_init_5 : decode cX6_init 5 = .ok (.new 7, 3) := by decide +kernel
theorem dX6_init_8 : decode cX6_init 8 = .ok (.dup, 1) := by decide +kernel
theorem dX6_init_9 : decode cX6_init 9 = .ok (.invokespecial 9, 3) := by decide +kernel
theorem dX6_init_12 : decode cX6_init 12 = .ok (.putfield 10, 3) := by decide +kernel
theorem dX6_init_15 : decode cX6_init 15 = .ok (.aload_n 0, 1) := by decide +kernel
theorem dX6_init_16 : decode cX6_init 16 = .ok (.new 7, 3) := by decide +kernel
theorem dX6_init_19 : decode cX6_init 19 = .ok (.dup, 1) := by decide +kernel
theorem dX6_init_20 : decode cX6_init 20 = .ok (.invokespecial 9, 3) := by decide +kernel
theorem dX6_init_23 : decode cX6_init 23 = .ok (.putfield 16, 3) := by decide +kernel
theorem dX6_init_26 : decode cX6_init 26 = .ok (.aload_n 0, 1) := by decide +kernel
theorem dX6_init_27 : decode cX6_init 27 = .ok (.new 7, 3) := by decide +kernel
theorem dX6_init_30 : decode cX6_init 30 = .ok (.dup, 1) := by decide +kernel
theorem dX6_init_31 : decode cX6_init 31 = .ok (.invokespecial 9, 3) := by decide +kernel
theorem dX6_init_34 : decode cX6_init 34 = .ok (.putfield 19, 3) := by decide +kernel
theorem dX6_init_37 : decode cX6_init 37 = .ok (.aload_n 0, 1) := by decide +kernel
theorem dX6_init_38 : decode cX6_init 38 = .ok (.iconst 0, 1) := by decide +kernel
theorem dX6_init_39 : decode cX6_init 39 = .ok (.putfield 22, 3) := by decide +kernel
theorem dX6_init_42 : decode cX6_init 42 = .ok (.aload_n 0, 1) := by decide +kernel
theorem dX6_init_43 : decode cX6_init 43 = .ok (.new 26, 3) := by decide +kernel
theorem dX6_init_46 : decode cX6_init 46 = .ok (.dup, 1) := by decide +kernel
theorem dX6_init_47 : decode cX6_init 47 = .ok (.invokespecial 28, 3) := by decide +kernel
theorem dX6_init_50 : decode cX6_init 50 = .ok (.putfield 29, 3) := by decide +kernel
theorem dX6_init_53 : decode cX6_init 53 = .ok (.aload_n 0, 1) := by decide +kernel
theorem dX6_init_54 : decode cX6_init 54 = .ok (.new 33, 3) := by decide +kernel
theorem dX6_init_57 : decode cX6_init 57 = .ok (.dup, 1) := by decide +kernel
theorem dX6_init_58 : decode cX6_init 58 = .ok (.invokespecial 35, 3) := by decide +kernel
theorem dX6_init_61 : decode cX6_init 61 = .ok (.putfield 36, 3) := by decide +kernel
theorem dX6_init_64 : decode cX6_init 64 = .ok (.return_, 1) := by decide +kernel
theorem dX6_add_0 : decode cX6_add 0 = .ok (.iload_n 1, 1) := by decide +kernel
theorem dX6_add_1 : decode cX6_add 1 = .ok (.iconst 2, 1) := by decide +kernel
theorem dX6_add_2 : decode cX6_add 2 = .ok (.bipush 6, 2) := by decide +kernel
theorem dX6_add_4 : decode cX6_add 4 = .ok (.invokestatic 40, 3) := by decide +kernel
theorem dX6_add_7 : decode cX6_add 7 = .ok (.ifCond .eq 20, 3) := by decide +kernel
theorem dX6_add_10 : decode cX6_add 10 = .ok (.iload_n 2, 1) := by decide +kernel
theorem dX6_add_11 : decode cX6_add 11 = .ok (.invokestatic 44, 3) := by decide +kernel
theorem dX6_add_14 : decode cX6_add 14 = .ok (.ifCond .eq 13, 3) := by decide +kernel
theorem dX6_add_17 : decode cX6_add 17 = .ok (.iload_n 3, 1) := by decide +kernel
theorem dX6_add_18 : decode cX6_add 18 = .ok (.iconst 1, 1) := by decide +kernel
theorem dX6_add_19 : decode cX6_add 19 = .ok (.bipush 8, 2) := by decide +kernel
theorem dX6_add_21 : decode cX6_add 21 = .ok (.invokestatic 40, 3) := by decide +kernel
theorem dX6_add_24 : decode cX6_add 24 = .ok (.ifCond .ne 6, 3) := by decide +kernel
theorem dX6_add_27 : decode cX6_add 27 = .ok (.bipush (-2), 2) := by decide +kernel
theorem dX6_add_29 : decode cX6_add 29 = .ok (.ireturn, 1) := by decide +kernel
theorem dX6_add_30 : decode cX6_add 30 = .ok (.aload_n 0, 1) := by decide +kernel
theorem dX6_add_31 : decode cX6_add 31 = .ok (.getfield 10, 3) := by decide +kernel
theorem dX6_add_34 : decode cX6_add 34 = .ok (.getfield 48, 3) := by decide +kernel
theorem dX6_add_37 : decode cX6_add 37 = .ok (.bipush 6, 2) := by decide +kernel
theorem dX6_add_39 : decode cX6_add 39 = .ok (.if_icmp .lt 6, 3) := by decide +kernel
theorem dX6_add_42 : decode cX6_add 42 = .ok (.bipush (-3), 2) := by decide +kernel
theorem dX6_add_44 : decode cX6_add 44 = .ok (.ireturn, 1) := by decide +kernel
theorem dX6_add_45 : decode cX6_add 45 = .ok (.aload_n 0, 1) := by decide +kernel
theorem dX6_add_46 : decode cX6_add 46 = .ok (.getfield 29, 3) := by decide +kernel
theorem dX6_add_49 : decode cX6_add 49 = .ok (.aload_n 0, 1) := by decide +kernel
theorem dX6_add_50 : decode cX6_add 50 = .ok (.getfield 10, 3) := by decide +kernel
theorem dX6_add_53 : decode cX6_add 53 = .ok (.invokevirtual 52, 3) := by decide +kernel
theorem dX6_add_56 : decode cX6_add 56 = .ok (.aload_n 0, 1) := by decide +kernel
theorem dX6_add_57 : decode cX6_add 57 = .ok (.getfield 10, 3) := by decide +kernel
theorem dX6_add_60 : decode cX6_add 60 = .ok (.iload_n 1, 1) := by decide +kernel
theorem dX6_add_61 : decode cX6_add 61 = .ok (.iload_n 2, 1) := by decide +kernel
theorem dX6_add_62 : decode cX6_add 62 = .ok (.iload_n 3, 1) := by decide +kernel
theorem dX6_add_63 : decode cX6_add 63 = .ok (.invokevirtual 56, 3) := by decide +kernel
theorem dX6_add_66 : decode cX6_add 66 = .ok (.ireturn, 1) := by decide +kernel
theorem dX6_take_0 : decode cX6_take 0 = .ok (.aload_n 0, 1) := by decide +kernel
theorem dX6_take_1 : decode cX6_take 1 = .ok (.getfield 10, 3) := by decide +kernel
theorem dX6_take_4 : decode cX6_take 4 = .ok (.iload_n 1, 1) := by decide +kernel
theorem dX6_take_5 : decode cX6_take 5 = .ok (.invokevirtual 60, 3) := by decide +kernel
theorem dX6_take_8 : decode cX6_take 8 = .ok (.ifCond .ne 5, 3) := by decide +kernel
theorem dX6_take_11 : decode cX6_take 11 = .ok (.iconst (-1), 1) := by decide +kernel
theorem dX6_take_12 : decode cX6_take 12 = .ok (.ireturn, 1) := by decide +kernel
theorem dX6_take_13 : decode cX6_take 13 = .ok (.aload_n 0, 1) := by decide +kernel
theorem dX6_take_14 : decode cX6_take 14 = .ok (.getfield 29, 3) := by decide +kernel
theorem dX6_take_17 : decode cX6_take 17 = .ok (.aload_n 0, 1) := by decide +kernel
theorem dX6_take_18 : decode cX6_take 18 = .ok (.getfield 10, 3) := by decide +kernel
theorem dX6_take_21 : decode cX6_take 21 = .ok (.invokevirtual 52, 3) := by decide +kernel
theorem dX6_take_24 : decode cX6_take 24 = .ok (.aload_n 0, 1) := by decide +kernel
theorem dX6_take_25 : decode cX6_take 25 = .ok (.getfield 10, 3) := by decide +kernel
theorem dX6_take_28 : decode cX6_take 28 = .ok (.iload_n 1, 1) := by decide +kernel
theorem dX6_take_29 : decode cX6_take 29 = .ok (.invokevirtual 63, 3) := by decide +kernel
theorem dX6_take_32 : decode cX6_take 32 = .ok (.ireturn, 1) := by decide +kernel
theorem dX6_setPins_0 : decode cX6_setPins 0 = .ok (.aload_n 0, 1) := by decide +kernel
theorem dX6_setPins_1 : decode cX6_setPins 1 = .ok (.getfield 10, 3) := by decide +kernel
theorem dX6_setPins_4 : decode cX6_setPins 4 = .ok (.iload_n 1, 1) := by decide +kernel
theorem dX6_setPins_5 : decode cX6_setPins 5 = .ok (.invokevirtual 60, 3) := by decide +kernel
theorem dX6_setPins_8 : decode cX6_setPins 8 = .ok (.ifCond .ne 5, 3) := by decide +kernel
theorem dX6_setPins_11 : decode cX6_setPins 11 = .ok (.iconst (-1), 1) := by decide +kernel
theorem dX6_setPins_12 : decode cX6_setPins 12 = .ok (.ireturn, 1) := by decide +kernel
theorem dX6_setPins_13 : decode cX6_setPins 13 = .ok (.iload_n 2, 1) := by decide +kernel
theorem dX6_setPins_14 : decode cX6_setPins 14 = .ok (.iconst 0, 1) := by decide +kernel
theorem dX6_setPins_15 : decode cX6_setPins 15 = .ok (.sipush 255, 3) := by decide +kernel
theorem dX6_setPins_18 : decode cX6_setPins 18 = .ok (.invokestatic 40, 3) := by decide +kernel
theorem dX6_setPins_21 : decode cX6_setPins 21 = .ok (.ifCond .ne 6, 3) := by decide +kernel
theorem dX6_setPins_24 : decode cX6_setPins 24 = .ok (.bipush (-2), 2) := by decide +kernel
theorem dX6_setPins_26 : decode cX6_setPins 26 = .ok (.ireturn, 1) := by decide +kernel
theorem dX6_setPins_27 : decode cX6_setPins 27 = .ok (.aload_n 0, 1) := by decide +kernel
theorem dX6_setPins_28 : decode cX6_setPins 28 = .ok (.getfield 29, 3) := by decide +kernel
theorem dX6_setPins_31 : decode cX6_setPins 31 = .ok (.aload_n 0, 1) := by decide +kernel
theorem dX6_setPins_32 : decode cX6_setPins 32 = .ok (.getfield 10, 3) := by decide +kernel
theorem dX6_setPins_35 : decode cX6_setPins 35 = .ok (.invokevirtual 52, 3) := by decide +kernel
theorem dX6_setPins_38 : decode cX6_setPins 38 = .ok (.aload_n 0, 1) := by decide +kernel
theorem dX6_setPins_39 : decode cX6_setPins 39 = .ok (.getfield 10, 3) := by decide +kernel
theorem dX6_setPins_42 : decode cX6_setPins 42 = .ok (.getfield 67, 3) := by decide +kernel
theorem dX6_setPins_45 : decode cX6_setPins 45 = .ok (.iload_n 1, 1) := by decide +kernel
theorem dX6_setPins_46 : decode cX6_setPins 46 = .ok (.aaload, 1) := by decide +kernel
theorem dX6_setPins_47 : decode cX6_setPins 47 = .ok (.iload_n 2, 1) := by decide +kernel
theorem dX6_setPins_48 : decode cX6_setPins 48 = .ok (.invokevirtual 71, 3) := by decide +kernel
theorem dX6_setPins_51 : decode cX6_setPins 51 = .ok (.ireturn, 1) := by decide +kernel
theorem dX6_breakChip_0 : decode cX6_breakChip 0 = .ok (.aload_n 0, 1) := by decide +kernel
theorem dX6_breakChip_1 : decode cX6_breakChip 1 = .ok (.getfield 10, 3) := by decide +kernel
theorem dX6_breakChip_4 : decode cX6_breakChip 4 = .ok (.iload_n 1, 1) := by decide +kernel
theorem dX6_breakChip_5 : decode cX6_breakChip 5 = .ok (.invokevirtual 60, 3) := by decide +kernel
theorem dX6_breakChip_8 : decode cX6_breakChip 8 = .ok (.ifCond .ne 5, 3) := by decide +kernel
theorem dX6_breakChip_11 : decode cX6_breakChip 11 = .ok (.iconst (-1), 1) := by decide +kernel
theorem dX6_breakChip_12 : decode cX6_breakChip 12 = .ok (.ireturn, 1) := by decide +kernel
theorem dX6_breakChip_13 : decode cX6_breakChip 13 = .ok (.aload_n 0, 1) := by decide +kernel
theorem dX6_breakChip_14 : decode cX6_breakChip 14 = .ok (.getfield 29, 3) := by decide +kernel
theorem dX6_breakChip_17 : decode cX6_breakChip 17 = .ok (.aload_n 0, 1) := by decide +kernel
theorem dX6_breakChip_18 : decode cX6_breakChip 18 = .ok (.getfield 10, 3) := by decide +kernel
theorem dX6_breakChip_21 : decode cX6_breakChip 21 = .ok (.invokevirtual 52, 3) := by decide +kernel
theorem dX6_breakChip_24 : decode cX6_breakChip 24 = .ok (.aload_n 0, 1) := by decide +kernel
theorem dX6_breakChip_25 : decode cX6_breakChip 25 = .ok (.getfield 10, 3) := by decide +kernel
theorem dX6_breakChip_28 : decode cX6_breakChip 28 = .ok (.getfield 67, 3) := by decide +kernel
theorem dX6_breakChip_31 : decode cX6_breakChip 31 = .ok (.iload_n 1, 1) := by decide +kernel
theorem dX6_breakChip_32 : decode cX6_breakChip 32 = .ok (.aaload, 1) := by decide +kernel
theorem dX6_breakChip_33 : decode cX6_breakChip 33 = .ok (.iload_n 2, 1) := by decide +kernel
theorem dX6_breakChip_34 : decode cX6_breakChip 34 = .ok (.putfield 76, 3) := by decide +kernel
theorem dX6_breakChip_37 : decode cX6_breakChip 37 = .ok (.aload_n 0, 1) := by decide +kernel
theorem dX6_breakChip_38 : decode cX6_breakChip 38 = .ok (.getfield 10, 3) := by decide +kernel
theorem dX6_breakChip_41 : decode cX6_breakChip 41 = .ok (.invokevirtual 79, 3) := by decide +kernel
theorem dX6_breakChip_44 : decode cX6_breakChip 44 = .ok (.ireturn, 1) := by decide +kernel
theorem dX6_clock_0 : decode cX6_clock 0 = .ok (.iload_n 1, 1) := by decide +kernel
theorem dX6_clock_1 : decode cX6_clock 1 = .ok (.iconst 0, 1) := by decide +kernel
theorem dX6_clock_2 : decode cX6_clock 2 = .ok (.iconst 1, 1) := by decide +kernel
theorem dX6_clock_3 : decode cX6_clock 3 = .ok (.invokestatic 40, 3) := by decide +kernel
theorem dX6_clock_6 : decode cX6_clock 6 = .ok (.ifCond .eq 12, 3) := by decide +kernel
theorem dX6_clock_9 : decode cX6_clock 9 = .ok (.iload_n 2, 1) := by decide +kernel
theorem dX6_clock_10 : decode cX6_clock 10 = .ok (.iconst 0, 1) := by decide +kernel
theorem dX6_clock_11 : decode cX6_clock 11 = .ok (.iconst 1, 1) := by decide +kernel
theorem dX6_clock_12 : decode cX6_clock 12 = .ok (.invokestatic 40, 3) := by decide +kernel
theorem dX6_clock_15 : decode cX6_clock 15 = .ok (.ifCond .ne 6, 3) := by decide +kernel
theorem dX6_clock_18 : decode cX6_clock 18 = .ok (.bipush (-2), 2) := by decide +kernel
theorem dX6_clock_20 : decode cX6_clock 20 = .ok (.ireturn, 1) := by decide +kernel
theorem dX6_clock_21 : decode cX6_clock 21 = .ok (.aload_n 0, 1) := by decide +kernel
theorem dX6_clock_22 : decode cX6_clock 22 = .ok (.getfield 29, 3) := by decide +kernel
theorem dX6_clock_25 : decode cX6_clock 25 = .ok (.aload_n 0, 1) := by decide +kernel
theorem dX6_clock_26 : decode cX6_clock 26 = .ok (.getfield 10, 3) := by decide +kernel
theorem dX6_clock_29 : decode cX6_clock 29 = .ok (.invokevirtual 52, 3) := by decide +kernel
theorem dX6_clock_32 : decode cX6_clock 32 = .ok (.aload_n 0, 1) := by decide +kernel
theorem dX6_clock_33 : decode cX6_clock 33 = .ok (.getfield 10, 3) := by decide +kernel
theorem dX6_clock_36 : decode cX6_clock 36 = .ok (.iload_n 1, 1) := by decide +kernel
theorem dX6_clock_37 : decode cX6_clock 37 = .ok (.iload_n 2, 1) := by decide +kernel
theorem dX6_clock_38 : decode cX6_clock 38 = .ok (.invokevirtual 83, 3) := by decide +kernel
theorem dX6_clock_41 : decode cX6_clock 41 = .ok (.ireturn, 1) := by decide +kernel
theorem dX6_move_0 : decode cX6_move 0 = .ok (.iload_n 1, 1) := by decide +kernel
theorem dX6_move_1 : decode cX6_move 1 = .ok (.invokestatic 87, 3) := by decide +kernel
theorem dX6_move_4 : decode cX6_move 4 = .ok (.ifCond .ne 6, 3) := by decide +kernel
theorem dX6_move_7 : decode cX6_move 7 = .ok (.bipush (-2), 2) := by decide +kernel
theorem dX6_move_9 : decode cX6_move 9 = .ok (.ireturn, 1) := by decide +kernel
theorem dX6_move_10 : decode cX6_move 10 = .ok (.aload_n 0, 1) := by decide +kernel
theorem dX6_move_11 : decode cX6_move 11 = .ok (.getfield 29, 3) := by decide +kernel
theorem dX6_move_14 : decode cX6_move 14 = .ok (.aload_n 0, 1) := by decide +kernel
theorem dX6_move_15 : decode cX6_move 15 = .ok (.getfield 10, 3) := by decide +kernel
theorem dX6_move_18 : decode cX6_move 18 = .ok (.invokevirtual 52, 3) := by decide +kernel
theorem dX6_move_21 : decode cX6_move 21 = .ok (.aload_n 0, 1) := by decide +kernel
theorem dX6_move_22 : decode cX6_move 22 = .ok (.getfield 10, 3) := by decide +kernel
theorem dX6_move_25 : decode cX6_move 25 = .ok (.iload_n 1, 1) := by decide +kernel
theorem dX6_move_26 : decode cX6_move 26 = .ok (.invokestatic 92, 3) := by decide +kernel
theorem dX6_move_29 : decode cX6_move 29 = .ok (.ireturn, 1) := by decide +kernel
theorem dX6_identify_0 : decode cX6_identify 0 = .ok (.aload_n 0, 1) := by decide +kernel
theorem dX6_identify_1 : decode cX6_identify 1 = .ok (.getfield 29, 3) := by decide +kernel
theorem dX6_identify_4 : decode cX6_identify 4 = .ok (.aload_n 0, 1) := by decide +kernel
theorem dX6_identify_5 : decode cX6_identify 5 = .ok (.getfield 10, 3) := by decide +kernel
theorem dX6_identify_8 : decode cX6_identify 8 = .ok (.invokevirtual 52, 3) := by decide +kernel
theorem dX6_identify_11 : decode cX6_identify 11 = .ok (.aload_n 0, 1) := by decide +kernel
theorem dX6_identify_12 : decode cX6_identify 12 = .ok (.getfield 10, 3) := by decide +kernel
theorem dX6_identify_15 : decode cX6_identify 15 = .ok (.invokestatic 98, 3) := by decide +kernel
theorem dX6_identify_18 : decode cX6_identify 18 = .ok (.ireturn, 1) := by decide +kernel
theorem dX6_load_0 : decode cX6_load 0 = .ok (.aload_n 0, 1) := by decide +kernel
theorem dX6_load_1 : decode cX6_load 1 = .ok (.getfield 10, 3) := by decide +kernel
theorem dX6_load_4 : decode cX6_load 4 = .ok (.iload_n 1, 1) := by decide +kernel
theorem dX6_load_5 : decode cX6_load 5 = .ok (.invokevirtual 60, 3) := by decide +kernel
theorem dX6_load_8 : decode cX6_load 8 = .ok (.ifCond .ne 5, 3) := by decide +kernel
theorem dX6_load_11 : decode cX6_load 11 = .ok (.iconst (-1), 1) := by decide +kernel
theorem dX6_load_12 : decode cX6_load 12 = .ok (.ireturn, 1) := by decide +kernel
theorem dX6_load_13 : decode cX6_load 13 = .ok (.iload_n 2, 1) := by decide +kernel
theorem dX6_load_14 : decode cX6_load 14 = .ok (.iconst 0, 1) := by decide +kernel
theorem dX6_load_15 : decode cX6_load 15 = .ok (.bipush 63, 2) := by decide +kernel
theorem dX6_load_17 : decode cX6_load 17 = .ok (.invokestatic 40, 3) := by decide +kernel
theorem dX6_load_20 : decode cX6_load 20 = .ok (.ifCond .ne 6, 3) := by decide +kernel
theorem dX6_load_23 : decode cX6_load 23 = .ok (.bipush (-2), 2) := by decide +kernel
theorem dX6_load_25 : decode cX6_load 25 = .ok (.ireturn, 1) := by decide +kernel
theorem dX6_load_26 : decode cX6_load 26 = .ok (.aload_n 0, 1) := by decide +kernel
theorem dX6_load_27 : decode cX6_load 27 = .ok (.getfield 29, 3) := by decide +kernel
theorem dX6_load_30 : decode cX6_load 30 = .ok (.aload_n 0, 1) := by decide +kernel
theorem dX6_load_31 : decode cX6_load 31 = .ok (.getfield 10, 3) := by decide +kernel
theorem dX6_load_34 : decode cX6_load 34 = .ok (.invokevirtual 52, 3) := by decide +kernel
theorem dX6_load_37 : decode cX6_load 37 = .ok (.aload_n 0, 1) := by decide +kernel
theorem dX6_load_38 : decode cX6_load 38 = .ok (.getfield 10, 3) := by decide +kernel
theorem dX6_load_41 : decode cX6_load 41 = .ok (.iload_n 1, 1) := by decide +kernel
theorem dX6_load_42 : decode cX6_load 42 = .ok (.iload_n 2, 1) := by decide +kernel
theorem dX6_load_43 : decode cX6_load 43 = .ok (.invokestatic 102, 3) := by decide +kernel
theorem dX6_load_46 : decode cX6_load 46 = .ok (.aload_n 0, 1) := by decide +kernel
theorem dX6_load_47 : decode cX6_load 47 = .ok (.getfield 10, 3) := by decide +kernel
theorem dX6_load_50 : decode cX6_load 50 = .ok (.getfield 67, 3) := by decide +kernel
theorem dX6_load_53 : decode cX6_load 53 = .ok (.iload_n 1, 1) := by decide +kernel
theorem dX6_load_54 : decode cX6_load 54 = .ok (.aaload, 1) := by decide +kernel
theorem dX6_load_55 : decode cX6_load 55 = .ok (.invokevirtual 106, 3) := by decide +kernel
theorem dX6_load_58 : decode cX6_load 58 = .ok (.ireturn, 1) := by decide +kernel
theorem dX6_exchange_0 : decode cX6_exchange 0 = .ok (.aload_n 0, 1) := by decide +kernel
theorem dX6_exchange_1 : decode cX6_exchange 1 = .ok (.iload_n 1, 1) := by decide +kernel
theorem dX6_exchange_2 : decode cX6_exchange 2 = .ok (.iload_n 2, 1) := by decide +kernel
theorem dX6_exchange_3 : decode cX6_exchange 3 = .ok (.invokevirtual 109, 3) := by decide +kernel
theorem dX6_exchange_6 : decode cX6_exchange 6 = .ok (.istore_n 3, 1) := by decide +kernel
theorem dX6_exchange_7 : decode cX6_exchange 7 = .ok (.iload_n 3, 1) := by decide +kernel
theorem dX6_exchange_8 : decode cX6_exchange 8 = .ok (.ifCond .eq 5, 3) := by decide +kernel
theorem dX6_exchange_11 : decode cX6_exchange 11 = .ok (.iload_n 3, 1) := by decide +kernel
theorem dX6_exchange_12 : decode cX6_exchange 12 = .ok (.ireturn, 1) := by decide +kernel
theorem dX6_exchange_13 : decode cX6_exchange 13 = .ok (.aload_n 0, 1) := by decide +kernel
theorem dX6_exchange_14 : decode cX6_exchange 14 = .ok (.getfield 29, 3) := by decide +kernel
theorem dX6_exchange_17 : decode cX6_exchange 17 = .ok (.aload_n 0, 1) := by decide +kernel
theorem dX6_exchange_18 : decode cX6_exchange 18 = .ok (.getfield 10, 3) := by decide +kernel
theorem dX6_exchange_21 : decode cX6_exchange 21 = .ok (.invokevirtual 52, 3) := by decide +kernel
theorem dX6_exchange_24 : decode cX6_exchange 24 = .ok (.aload_n 0, 1) := by decide +kernel
theorem dX6_exchange_25 : decode cX6_exchange 25 = .ok (.getfield 10, 3) := by decide +kernel
theorem dX6_exchange_28 : decode cX6_exchange 28 = .ok (.iload_n 1, 1) := by decide +kernel
theorem dX6_exchange_29 : decode cX6_exchange 29 = .ok (.iload_n 2, 1) := by decide +kernel
theorem dX6_exchange_30 : decode cX6_exchange 30 = .ok (.invokestatic 112, 3) := by decide +kernel
theorem dX6_exchange_33 : decode cX6_exchange 33 = .ok (.ireturn, 1) := by decide +kernel
theorem dX6_append_0 : decode cX6_append 0 = .ok (.iload_n 1, 1) := by decide +kernel
theorem dX6_append_1 : decode cX6_append 1 = .ok (.bipush 32, 2) := by decide +kernel
theorem dX6_append_3 : decode cX6_append 3 = .ok (.bipush 126, 2) := by decide +kernel
theorem dX6_append_5 : decode cX6_append 5 = .ok (.invokestatic 40, 3) := by decide +kernel
theorem dX6_append_8 : decode cX6_append 8 = .ok (.ifCond .ne 6, 3) := by decide +kernel
theorem dX6_append_11 : decode cX6_append 11 = .ok (.bipush (-2), 2) := by decide +kernel
theorem dX6_append_13 : decode cX6_append 13 = .ok (.ireturn, 1) := by decide +kernel
theorem dX6_append_14 : decode cX6_append 14 = .ok (.aload_n 0, 1) := by decide +kernel
theorem dX6_append_15 : decode cX6_append 15 = .ok (.getfield 36, 3) := by decide +kernel
theorem dX6_append_18 : decode cX6_append 18 = .ok (.getfield 116, 3) := by decide +kernel
theorem dX6_append_21 : decode cX6_append 21 = .ok (.bipush 80, 2) := by decide +kernel
theorem dX6_append_23 : decode cX6_append 23 = .ok (.if_icmp .lt 6, 3) := by decide +kernel
theorem dX6_append_26 : decode cX6_append 26 = .ok (.bipush (-3), 2) := by decide +kernel
theorem dX6_append_28 : decode cX6_append 28 = .ok (.ireturn, 1) := by decide +kernel
theorem dX6_append_29 : decode cX6_append 29 = .ok (.aload_n 0, 1) := by decide +kernel
theorem dX6_append_30 : decode cX6_append 30 = .ok (.getfield 36, 3) := by decide +kernel
theorem dX6_append_33 : decode cX6_append 33 = .ok (.iload_n 1, 1) := by decide +kernel
theorem dX6_append_34 : decode cX6_append 34 = .ok (.invokevirtual 119, 3) := by decide +kernel
theorem dX6_append_37 : decode cX6_append 37 = .ok (.ireturn, 1) := by decide +kernel
theorem dX6_clearText_0 : decode cX6_clearText 0 = .ok (.aload_n 0, 1) := by decide +kernel
theorem dX6_clearText_1 : decode cX6_clearText 1 = .ok (.getfield 36, 3) := by decide +kernel
theorem dX6_clearText_4 : decode cX6_clearText 4 = .ok (.invokevirtual 122, 3) := by decide +kernel
theorem dX6_clearText_7 : decode cX6_clearText 7 = .ok (.ireturn, 1) := by decide +kernel
theorem dX6_fault_0 : decode cX6_fault 0 = .ok (.aload_n 0, 1) := by decide +kernel
theorem dX6_fault_1 : decode cX6_fault 1 = .ok (.getfield 36, 3) := by decide +kernel
theorem dX6_fault_4 : decode cX6_fault 4 = .ok (.invokevirtual 125, 3) := by decide +kernel
theorem dX6_fault_7 : decode cX6_fault 7 = .ok (.ireturn, 1) := by decide +kernel
theorem dX6_run_0 : decode cX6_run 0 = .ok (.aload_n 0, 1) := by decide +kernel
theorem dX6_run_1 : decode cX6_run 1 = .ok (.getfield 36, 3) := by decide +kernel
theorem dX6_run_4 : decode cX6_run 4 = .ok (.invokevirtual 125, 3) := by decide +kernel
theorem dX6_run_7 : decode cX6_run 7 = .ok (.istore_n 1, 1) := by decide +kernel
theorem dX6_run_8 : decode cX6_run 8 = .ok (.iload_n 1, 1) := by decide +kernel
theorem dX6_run_9 : decode cX6_run 9 = .ok (.bipush (-4), 2) := by decide +kernel
theorem dX6_run_11 : decode cX6_run 11 = .ok (.if_icmp .eq 8, 3) := by decide +kernel
theorem dX6_run_14 : decode cX6_run 14 = .ok (.bipush (-100), 2) := by decide +kernel
theorem dX6_run_16 : decode cX6_run 16 = .ok (.iload_n 1, 1) := by decide +kernel
theorem dX6_run_17 : decode cX6_run 17 = .ok (.isub, 1) := by decide +kernel
theorem dX6_run_18 : decode cX6_run 18 = .ok (.ireturn, 1) := by decide +kernel
theorem dX6_run_19 : decode cX6_run 19 = .ok (.aload_n 0, 1) := by decide +kernel
theorem dX6_run_20 : decode cX6_run 20 = .ok (.getfield 29, 3) := by decide +kernel
theorem dX6_run_23 : decode cX6_run 23 = .ok (.aload_n 0, 1) := by decide +kernel
theorem dX6_run_24 : decode cX6_run 24 = .ok (.getfield 10, 3) := by decide +kernel
theorem dX6_run_27 : decode cX6_run 27 = .ok (.invokevirtual 52, 3) := by decide +kernel
theorem dX6_run_30 : decode cX6_run 30 = .ok (.aload_n 0, 1) := by decide +kernel
theorem dX6_run_31 : decode cX6_run 31 = .ok (.getfield 10, 3) := by decide +kernel
theorem dX6_run_34 : decode cX6_run 34 = .ok (.aload_n 0, 1) := by decide +kernel
theorem dX6_run_35 : decode cX6_run 35 = .ok (.getfield 36, 3) := by decide +kernel
theorem dX6_run_38 : decode cX6_run 38 = .ok (.invokestatic 128, 3) := by decide +kernel
theorem dX6_run_41 : decode cX6_run 41 = .ok (.ireturn, 1) := by decide +kernel
theorem dX6_undo_0 : decode cX6_undo 0 = .ok (.aload_n 0, 1) := by decide +kernel
theorem dX6_undo_1 : decode cX6_undo 1 = .ok (.getfield 29, 3) := by decide +kernel
theorem dX6_undo_4 : decode cX6_undo 4 = .ok (.aload_n 0, 1) := by decide +kernel
theorem dX6_undo_5 : decode cX6_undo 5 = .ok (.getfield 10, 3) := by decide +kernel
theorem dX6_undo_8 : decode cX6_undo 8 = .ok (.invokevirtual 132, 3) := by decide +kernel
theorem dX6_undo_11 : decode cX6_undo 11 = .ok (.ireturn, 1) := by decide +kernel
theorem dX6_save_0 : decode cX6_save 0 = .ok (.aload_n 0, 1) := by decide +kernel
theorem dX6_save_1 : decode cX6_save 1 = .ok (.getfield 19, 3) := by decide +kernel
theorem dX6_save_4 : decode cX6_save 4 = .ok (.aload_n 0, 1) := by decide +kernel
theorem dX6_save_5 : decode cX6_save 5 = .ok (.getfield 10, 3) := by decide +kernel
theorem dX6_save_8 : decode cX6_save 8 = .ok (.invokevirtual 135, 3) := by decide +kernel
theorem dX6_save_11 : decode cX6_save 11 = .ok (.aload_n 0, 1) := by decide +kernel
theorem dX6_save_12 : decode cX6_save 12 = .ok (.iconst 1, 1) := by decide +kernel
theorem dX6_save_13 : decode cX6_save 13 = .ok (.putfield 22, 3) := by decide +kernel
theorem dX6_save_16 : decode cX6_save 16 = .ok (.aload_n 0, 1) := by decide +kernel
theorem dX6_save_17 : decode cX6_save 17 = .ok (.getfield 10, 3) := by decide +kernel
theorem dX6_save_20 : decode cX6_save 20 = .ok (.getfield 48, 3) := by decide +kernel
theorem dX6_save_23 : decode cX6_save 23 = .ok (.ireturn, 1) := by decide +kernel
theorem dX6_restore_0 : decode cX6_restore 0 = .ok (.aload_n 0, 1) := by decide +kernel
theorem dX6_restore_1 : decode cX6_restore 1 = .ok (.getfield 22, 3) := by decide +kernel
theorem dX6_restore_4 : decode cX6_restore 4 = .ok (.ifCond .ne 5, 3) := by decide +kernel
theorem dX6_restore_7 : decode cX6_restore 7 = .ok (.iconst (-1), 1) := by decide +kernel
theorem dX6_restore_8 : decode cX6_restore 8 = .ok (.ireturn, 1) := by decide +kernel
theorem dX6_restore_9 : decode cX6_restore 9 = .ok (.aload_n 0, 1) := by decide +kernel
theorem dX6_restore_10 : decode cX6_restore 10 = .ok (.getfield 29, 3) := by decide +kernel
theorem dX6_restore_13 : decode cX6_restore 13 = .ok (.aload_n 0, 1) := by decide +kernel
theorem dX6_restore_14 : decode cX6_restore 14 = .ok (.getfield 10, 3) := by decide +kernel
theorem dX6_restore_17 : decode cX6_restore 17 = .ok (.invokevirtual 52, 3) := by decide +kernel
theorem dX6_restore_20 : decode cX6_restore 20 = .ok (.aload_n 0, 1) := by decide +kernel
theorem dX6_restore_21 : decode cX6_restore 21 = .ok (.getfield 10, 3) := by decide +kernel
theorem dX6_restore_24 : decode cX6_restore 24 = .ok (.aload_n 0, 1) := by decide +kernel
theorem dX6_restore_25 : decode cX6_restore 25 = .ok (.getfield 19, 3) := by decide +kernel
theorem dX6_restore_28 : decode cX6_restore 28 = .ok (.invokevirtual 135, 3) := by decide +kernel
theorem dX6_restore_31 : decode cX6_restore 31 = .ok (.aload_n 0, 1) := by decide +kernel
theorem dX6_restore_32 : decode cX6_restore 32 = .ok (.getfield 10, 3) := by decide +kernel
theorem dX6_restore_35 : decode cX6_restore 35 = .ok (.getfield 48, 3) := by decide +kernel
theorem dX6_restore_38 : decode cX6_restore 38 = .ok (.ireturn, 1) := by decide +kernel
theorem dX6_chip_0 : decode cX6_chip 0 = .ok (.aload_n 0, 1) := by decide +kernel
theorem dX6_chip_1 : decode cX6_chip 1 = .ok (.getfield 10, 3) := by decide +kernel
theorem dX6_chip_4 : decode cX6_chip 4 = .ok (.iload_n 1, 1) := by decide +kernel
theorem dX6_chip_5 : decode cX6_chip 5 = .ok (.invokevirtual 60, 3) := by decide +kernel
theorem dX6_chip_8 : decode cX6_chip 8 = .ok (.ifCond .ne 5, 3) := by decide +kernel
theorem dX6_chip_11 : decode cX6_chip 11 = .ok (.iconst (-1), 1) := by decide +kernel
theorem dX6_chip_12 : decode cX6_chip 12 = .ok (.ireturn, 1) := by decide +kernel
theorem dX6_chip_13 : decode cX6_chip 13 = .ok (.aload_n 0, 1) := by decide +kernel
theorem dX6_chip_14 : decode cX6_chip 14 = .ok (.getfield 10, 3) := by decide +kernel
theorem dX6_chip_17 : decode cX6_chip 17 = .ok (.getfield 67, 3) := by decide +kernel
theorem dX6_chip_20 : decode cX6_chip 20 = .ok (.iload_n 1, 1) := by decide +kernel
theorem dX6_chip_21 : decode cX6_chip 21 = .ok (.aaload, 1) := by decide +kernel
theorem dX6_chip_22 : decode cX6_chip 22 = .ok (.iload_n 2, 1) := by decide +kernel
theorem dX6_chip_23 : decode cX6_chip 23 = .ok (.invokevirtual 138, 3) := by decide +kernel
theorem dX6_chip_26 : decode cX6_chip 26 = .ok (.ireturn, 1) := by decide +kernel
theorem dX6_count_0 : decode cX6_count 0 = .ok (.iload_n 1, 1) := by decide +kernel
theorem dX6_count_1 : decode cX6_count 1 = .ok (.tableswitch 123 0 8 #[51, 59, 67, 75, 83, 91, 99, 107, 115], 51) := by decide +kernel
theorem dX6_count_52 : decode cX6_count 52 = .ok (.aload_n 0, 1) := by decide +kernel
theorem dX6_count_53 : decode cX6_count 53 = .ok (.getfield 10, 3) := by decide +kernel
theorem dX6_count_56 : decode cX6_count 56 = .ok (.getfield 48, 3) := by decide +kernel
theorem dX6_count_59 : decode cX6_count 59 = .ok (.ireturn, 1) := by decide +kernel
theorem dX6_count_60 : decode cX6_count 60 = .ok (.aload_n 0, 1) := by decide +kernel
theorem dX6_count_61 : decode cX6_count 61 = .ok (.getfield 10, 3) := by decide +kernel
theorem dX6_count_64 : decode cX6_count 64 = .ok (.invokevirtual 79, 3) := by decide +kernel
theorem dX6_count_67 : decode cX6_count 67 = .ok (.ireturn, 1) := by decide +kernel
theorem dX6_count_68 : decode cX6_count 68 = .ok (.aload_n 0, 1) := by decide +kernel
theorem dX6_count_69 : decode cX6_count 69 = .ok (.getfield 10, 3) := by decide +kernel
theorem dX6_count_72 : decode cX6_count 72 = .ok (.getfield 141, 3) := by decide +kernel
theorem dX6_count_75 : decode cX6_count 75 = .ok (.ireturn, 1) := by decide +kernel
theorem dX6_count_76 : decode cX6_count 76 = .ok (.aload_n 0, 1) := by decide +kernel
theorem dX6_count_77 : decode cX6_count 77 = .ok (.getfield 10, 3) := by decide +kernel
theorem dX6_count_80 : decode cX6_count 80 = .ok (.getfield 144, 3) := by decide +kernel
theorem dX6_count_83 : decode cX6_count 83 = .ok (.ireturn, 1) := by decide +kernel
theorem dX6_count_84 : decode cX6_count 84 = .ok (.aload_n 0, 1) := by decide +kernel
theorem dX6_count_85 : decode cX6_count 85 = .ok (.getfield 10, 3) := by decide +kernel
theorem dX6_count_88 : decode cX6_count 88 = .ok (.invokevirtual 147, 3) := by decide +kernel
theorem dX6_count_91 : decode cX6_count 91 = .ok (.ireturn, 1) := by decide +kernel
theorem dX6_count_92 : decode cX6_count 92 = .ok (.aload_n 0, 1) := by decide +kernel
theorem dX6_count_93 : decode cX6_count 93 = .ok (.getfield 10, 3) := by decide +kernel
theorem dX6_count_96 : decode cX6_count 96 = .ok (.invokevirtual 150, 3) := by decide +kernel
theorem dX6_count_99 : decode cX6_count 99 = .ok (.ireturn, 1) := by decide +kernel
theorem dX6_count_100 : decode cX6_count 100 = .ok (.aload_n 0, 1) := by decide +kernel
theorem dX6_count_101 : decode cX6_count 101 = .ok (.getfield 10, 3) := by decide +kernel
theorem dX6_count_104 : decode cX6_count 104 = .ok (.getfield 153, 3) := by decide +kernel
theorem dX6_count_107 : decode cX6_count 107 = .ok (.ireturn, 1) := by decide +kernel
theorem dX6_count_108 : decode cX6_count 108 = .ok (.aload_n 0, 1) := by decide +kernel
theorem dX6_count_109 : decode cX6_count 109 = .ok (.getfield 29, 3) := by decide +kernel
theorem dX6_count_112 : decode cX6_count 112 = .ok (.getfield 156, 3) := by decide +kernel
theorem dX6_count_115 : decode cX6_count 115 = .ok (.ireturn, 1) := by decide +kernel
theorem dX6_count_116 : decode cX6_count 116 = .ok (.aload_n 0, 1) := by decide +kernel
theorem dX6_count_117 : decode cX6_count 117 = .ok (.getfield 36, 3) := by decide +kernel
theorem dX6_count_120 : decode cX6_count 120 = .ok (.getfield 116, 3) := by decide +kernel
theorem dX6_count_123 : decode cX6_count 123 = .ok (.ireturn, 1) := by decide +kernel
theorem dX6_count_124 : decode cX6_count 124 = .ok (.bipush (-2), 2) := by decide +kernel
theorem dX6_count_126 : decode cX6_count 126 = .ok (.ireturn, 1) := by decide +kernel
theorem dX6_found_0 : decode cX6_found 0 = .ok (.iload_n 1, 1) := by decide +kernel
theorem dX6_found_1 : decode cX6_found 1 = .ok (.ifCond .ge 6, 3) := by decide +kernel
theorem dX6_found_4 : decode cX6_found 4 = .ok (.bipush (-2), 2) := by decide +kernel
theorem dX6_found_6 : decode cX6_found 6 = .ok (.ireturn, 1) := by decide +kernel
theorem dX6_found_7 : decode cX6_found 7 = .ok (.iload_n 1, 1) := by decide +kernel
theorem dX6_found_8 : decode cX6_found 8 = .ok (.aload_n 0, 1) := by decide +kernel
theorem dX6_found_9 : decode cX6_found 9 = .ok (.getfield 10, 3) := by decide +kernel
theorem dX6_found_12 : decode cX6_found 12 = .ok (.getfield 153, 3) := by decide +kernel
theorem dX6_found_15 : decode cX6_found 15 = .ok (.if_icmp .lt 6, 3) := by decide +kernel
theorem dX6_found_18 : decode cX6_found 18 = .ok (.bipush (-4), 2) := by decide +kernel
theorem dX6_found_20 : decode cX6_found 20 = .ok (.ireturn, 1) := by decide +kernel
theorem dX6_found_21 : decode cX6_found 21 = .ok (.aload_n 0, 1) := by decide +kernel
theorem dX6_found_22 : decode cX6_found 22 = .ok (.getfield 10, 3) := by decide +kernel
theorem dX6_found_25 : decode cX6_found 25 = .ok (.getfield 157, 3) := by decide +kernel
theorem dX6_found_28 : decode cX6_found 28 = .ok (.iload_n 1, 1) := by decide +kernel
theorem dX6_found_29 : decode cX6_found 29 = .ok (.iaload, 1) := by decide +kernel
theorem dX6_found_30 : decode cX6_found 30 = .ok (.ireturn, 1) := by decide +kernel
theorem dX6_distance_0 : decode cX6_distance 0 = .ok (.iload_n 1, 1) := by decide +kernel
theorem dX6_distance_1 : decode cX6_distance 1 = .ok (.invokestatic 87, 3) := by decide +kernel
theorem dX6_distance_4 : decode cX6_distance 4 = .ok (.ifCond .eq 10, 3) := by decide +kernel
theorem dX6_distance_7 : decode cX6_distance 7 = .ok (.iload_n 2, 1) := by decide +kernel
theorem dX6_distance_8 : decode cX6_distance 8 = .ok (.invokestatic 87, 3) := by decide +kernel
theorem dX6_distance_11 : decode cX6_distance 11 = .ok (.ifCond .ne 6, 3) := by decide +kernel
theorem dX6_distance_14 : decode cX6_distance 14 = .ok (.bipush (-2), 2) := by decide +kernel
theorem dX6_distance_16 : decode cX6_distance 16 = .ok (.ireturn, 1) := by decide +kernel
theorem dX6_distance_17 : decode cX6_distance 17 = .ok (.iload_n 1, 1) := by decide +kernel
theorem dX6_distance_18 : decode cX6_distance 18 = .ok (.iload_n 2, 1) := by decide +kernel
theorem dX6_distance_19 : decode cX6_distance 19 = .ok (.invokestatic 161, 3) := by decide +kernel
theorem dX6_distance_22 : decode cX6_distance 22 = .ok (.ireturn, 1) := by decide +kernel
theorem dX6_peek_0 : decode cX6_peek 0 = .ok (.iload_n 1, 1) := by decide +kernel
theorem dX6_peek_1 : decode cX6_peek 1 = .ok (.iconst 0, 1) := by decide +kernel
theorem dX6_peek_2 : decode cX6_peek 2 = .ok (.iconst 1, 1) := by decide +kernel
theorem dX6_peek_3 : decode cX6_peek 3 = .ok (.invokestatic 40, 3) := by decide +kernel
theorem dX6_peek_6 : decode cX6_peek 6 = .ok (.ifCond .ne 6, 3) := by decide +kernel
theorem dX6_peek_9 : decode cX6_peek 9 = .ok (.bipush (-2), 2) := by decide +kernel
theorem dX6_peek_11 : decode cX6_peek 11 = .ok (.ireturn, 1) := by decide +kernel
theorem dX6_peek_12 : decode cX6_peek 12 = .ok (.aload_n 0, 1) := by decide +kernel
theorem dX6_peek_13 : decode cX6_peek 13 = .ok (.getfield 10, 3) := by decide +kernel
theorem dX6_peek_16 : decode cX6_peek 16 = .ok (.iload_n 1, 1) := by decide +kernel
theorem dX6_peek_17 : decode cX6_peek 17 = .ok (.invokevirtual 164, 3) := by decide +kernel
theorem dX6_peek_20 : decode cX6_peek 20 = .ok (.ireturn, 1) := by decide +kernel
theorem dX6_ifIdentified_0 : decode cX6_ifIdentified 0 = .ok (.aload_n 0, 1) := by decide +kernel
theorem dX6_ifIdentified_1 : decode cX6_ifIdentified 1 = .ok (.getfield 16, 3) := by decide +kernel
theorem dX6_ifIdentified_4 : decode cX6_ifIdentified 4 = .ok (.aload_n 0, 1) := by decide +kernel
theorem dX6_ifIdentified_5 : decode cX6_ifIdentified 5 = .ok (.getfield 10, 3) := by decide +kernel
theorem dX6_ifIdentified_8 : decode cX6_ifIdentified 8 = .ok (.invokevirtual 135, 3) := by decide +kernel
theorem dX6_ifIdentified_11 : decode cX6_ifIdentified 11 = .ok (.aload_n 0, 1) := by decide +kernel
theorem dX6_ifIdentified_12 : decode cX6_ifIdentified 12 = .ok (.getfield 16, 3) := by decide +kernel
theorem dX6_ifIdentified_15 : decode cX6_ifIdentified 15 = .ok (.invokestatic 98, 3) := by decide +kernel
theorem dX6_ifIdentified_18 : decode cX6_ifIdentified 18 = .ok (.ireturn, 1) := by decide +kernel
theorem dX6_ifExchanged_0 : decode cX6_ifExchanged 0 = .ok (.aload_n 0, 1) := by decide +kernel
theorem dX6_ifExchanged_1 : decode cX6_ifExchanged 1 = .ok (.iload_n 1, 1) := by decide +kernel
theorem dX6_ifExchanged_2 : decode cX6_ifExchanged 2 = .ok (.iload_n 2, 1) := by decide +kernel
theorem dX6_ifExchanged_3 : decode cX6_ifExchanged 3 = .ok (.invokevirtual 109, 3) := by decide +kernel
theorem dX6_ifExchanged_6 : decode cX6_ifExchanged 6 = .ok (.istore_n 3, 1) := by decide +kernel
theorem dX6_ifExchanged_7 : decode cX6_ifExchanged 7 = .ok (.iload_n 3, 1) := by decide +kernel
theorem dX6_ifExchanged_8 : decode cX6_ifExchanged 8 = .ok (.ifCond .eq 5, 3) := by decide +kernel
theorem dX6_ifExchanged_11 : decode cX6_ifExchanged 11 = .ok (.iload_n 3, 1) := by decide +kernel
theorem dX6_ifExchanged_12 : decode cX6_ifExchanged 12 = .ok (.ireturn, 1) := by decide +kernel
theorem dX6_ifExchanged_13 : decode cX6_ifExchanged 13 = .ok (.aload_n 0, 1) := by decide +kernel
theorem dX6_ifExchanged_14 : decode cX6_ifExchanged 14 = .ok (.getfield 16, 3) := by decide +kernel
theorem dX6_ifExchanged_17 : decode cX6_ifExchanged 17 = .ok (.aload_n 0, 1) := by decide +kernel
theorem dX6_ifExchanged_18 : decode cX6_ifExchanged 18 = .ok (.getfield 10, 3) := by decide +kernel
theorem dX6_ifExchanged_21 : decode cX6_ifExchanged 21 = .ok (.invokevirtual 135, 3) := by decide +kernel
theorem dX6_ifExchanged_24 : decode cX6_ifExchanged 24 = .ok (.aload_n 0, 1) := by decide +kernel
theorem dX6_ifExchanged_25 : decode cX6_ifExchanged 25 = .ok (.getfield 16, 3) := by decide +kernel
theorem dX6_ifExchanged_28 : decode cX6_ifExchanged 28 = .ok (.iload_n 1, 1) := by decide +kernel
theorem dX6_ifExchanged_29 : decode cX6_ifExchanged 29 = .ok (.iload_n 2, 1) := by decide +kernel
theorem dX6_ifExchanged_30 : decode cX6_ifExchanged 30 = .ok (.invokestatic 112, 3) := by decide +kernel
theorem dX6_ifExchanged_33 : decode cX6_ifExchanged 33 = .ok (.ireturn, 1) := by decide +kernel
theorem dX6_bypassed_0 : decode cX6_bypassed 0 = .ok (.aload_n 0, 1) := by decide +kernel
theorem dX6_bypassed_1 : decode cX6_bypassed 1 = .ok (.getfield 10, 3) := by decide +kernel
theorem dX6_bypassed_4 : decode cX6_bypassed 4 = .ok (.getfield 48, 3) := by decide +kernel
theorem dX6_bypassed_7 : decode cX6_bypassed 7 = .ok (.ifCond .gt 5, 3) := by decide +kernel
theorem dX6_bypassed_10 : decode cX6_bypassed 10 = .ok (.fconst 0, 1) := by decide +kernel
theorem dX6_bypassed_11 : decode cX6_bypassed 11 = .ok (.freturn, 1) := by decide +kernel
theorem dX6_bypassed_12 : decode cX6_bypassed 12 = .ok (.aload_n 0, 1) := by decide +kernel
theorem dX6_bypassed_13 : decode cX6_bypassed 13 = .ok (.getfield 10, 3) := by decide +kernel
theorem dX6_bypassed_16 : decode cX6_bypassed 16 = .ok (.invokevirtual 167, 3) := by decide +kernel
theorem dX6_bypassed_19 : decode cX6_bypassed 19 = .ok (.i2f, 1) := by decide +kernel
theorem dX6_bypassed_20 : decode cX6_bypassed 20 = .ok (.aload_n 0, 1) := by decide +kernel
theorem dX6_bypassed_21 : decode cX6_bypassed 21 = .ok (.getfield 10, 3) := by decide +kernel
theorem dX6_bypassed_24 : decode cX6_bypassed 24 = .ok (.getfield 48, 3) := by decide +kernel
theorem dX6_bypassed_27 : decode cX6_bypassed 27 = .ok (.i2f, 1) := by decide +kernel
theorem dX6_bypassed_28 : decode cX6_bypassed 28 = .ok (.fdiv, 1) := by decide +kernel
theorem dX6_bypassed_29 : decode cX6_bypassed 29 = .ok (.freturn, 1) := by decide +kernel
theorem dX6_isWithin_0 : decode cX6_isWithin 0 = .ok (.iload_n 0, 1) := by decide +kernel
theorem dX6_isWithin_1 : decode cX6_isWithin 1 = .ok (.iload_n 1, 1) := by decide +kernel
theorem dX6_isWithin_2 : decode cX6_isWithin 2 = .ok (.if_icmp .lt 12, 3) := by decide +kernel
theorem dX6_isWithin_5 : decode cX6_isWithin 5 = .ok (.iload_n 0, 1) := by decide +kernel
theorem dX6_isWithin_6 : decode cX6_isWithin 6 = .ok (.iload_n 2, 1) := by decide +kernel
theorem dX6_isWithin_7 : decode cX6_isWithin 7 = .ok (.if_icmp .gt 7, 3) := by decide +kernel
theorem dX6_isWithin_10 : decode cX6_isWithin 10 = .ok (.iconst 1, 1) := by decide +kernel
theorem dX6_isWithin_11 : decode cX6_isWithin 11 = .ok (.goto 4, 3) := by decide +kernel
theorem dX6_isWithin_14 : decode cX6_isWithin 14 = .ok (.iconst 0, 1) := by decide +kernel
theorem dX6_isWithin_15 : decode cX6_isWithin 15 = .ok (.ireturn, 1) := by decide +kernel
theorem dX6_isIdentity_0 : decode cX6_isIdentity 0 = .ok (.iload_n 0, 1) := by decide +kernel
theorem dX6_isIdentity_1 : decode cX6_isIdentity 1 = .ok (.ifCond .eq 21, 3) := by decide +kernel
theorem dX6_isIdentity_4 : decode cX6_isIdentity 4 = .ok (.iload_n 0, 1) := by decide +kernel
theorem dX6_isIdentity_5 : decode cX6_isIdentity 5 = .ok (.iconst 1, 1) := by decide +kernel
theorem dX6_isIdentity_6 : decode cX6_isIdentity 6 = .ok (.sipush 253, 3) := by decide +kernel
theorem dX6_isIdentity_9 : decode cX6_isIdentity 9 = .ok (.invokestatic 40, 3) := by decide +kernel
theorem dX6_isIdentity_12 : decode cX6_isIdentity 12 = .ok (.ifCond .eq 14, 3) := by decide +kernel
theorem dX6_isIdentity_15 : decode cX6_isIdentity 15 = .ok (.iload_n 0, 1) := by decide +kernel
theorem dX6_isIdentity_16 : decode cX6_isIdentity 16 = .ok (.iconst 2, 1) := by decide +kernel
theorem dX6_isIdentity_17 : decode cX6_isIdentity 17 = .ok (.irem, 1) := by decide +kernel
theorem dX6_isIdentity_18 : decode cX6_isIdentity 18 = .ok (.iconst 1, 1) := by decide +kernel
theorem dX6_isIdentity_19 : decode cX6_isIdentity 19 = .ok (.if_icmp .ne 7, 3) := by decide +kernel
theorem dX6_isIdentity_22 : decode cX6_isIdentity 22 = .ok (.iconst 1, 1) := by decide +kernel
theorem dX6_isIdentity_23 : decode cX6_isIdentity 23 = .ok (.goto 4, 3) := by decide +kernel
theorem dX6_isIdentity_26 : decode cX6_isIdentity 26 = .ok (.iconst 0, 1) := by decide +kernel
theorem dX6_isIdentity_27 : decode cX6_isIdentity 27 = .ok (.ireturn, 1) := by decide +kernel
theorem dX6_exchangeError_0 : decode cX6_exchangeError 0 = .ok (.aload_n 0, 1) := by decide +kernel
theorem dX6_exchangeError_1 : decode cX6_exchangeError 1 = .ok (.getfield 10, 3) := by decide +kernel
theorem dX6_exchangeError_4 : decode cX6_exchangeError 4 = .ok (.iload_n 1, 1) := by decide +kernel
theorem dX6_exchangeError_5 : decode cX6_exchangeError 5 = .ok (.invokevirtual 60, 3) := by decide +kernel
theorem dX6_exchangeError_8 : decode cX6_exchangeError 8 = .ok (.ifCond .ne 5, 3) := by decide +kernel
theorem dX6_exchangeError_11 : decode cX6_exchangeError 11 = .ok (.iconst (-1), 1) := by decide +kernel
theorem dX6_exchangeError_12 : decode cX6_exchangeError 12 = .ok (.ireturn, 1) := by decide +kernel
theorem dX6_exchangeError_13 : decode cX6_exchangeError 13 = .ok (.iload_n 2, 1) := by decide +kernel
theorem dX6_exchangeError_14 : decode cX6_exchangeError 14 = .ok (.iconst 0, 1) := by decide +kernel
theorem dX6_exchangeError_15 : decode cX6_exchangeError 15 = .ok (.sipush 255, 3) := by decide +kernel
theorem dX6_exchangeError_18 : decode cX6_exchangeError 18 = .ok (.invokestatic 40, 3) := by decide +kernel
theorem dX6_exchangeError_21 : decode cX6_exchangeError 21 = .ok (.ifCond .eq 7, 3) := by decide +kernel
theorem dX6_exchangeError_24 : decode cX6_exchangeError 24 = .ok (.iconst 0, 1) := by decide +kernel
theorem dX6_exchangeError_25 : decode cX6_exchangeError 25 = .ok (.goto 5, 3) := by decide +kernel
theorem dX6_exchangeError_28 : decode cX6_exchangeError 28 = .ok (.bipush (-2), 2) := by decide +kernel
theorem dX6_exchangeError_30 : decode cX6_exchangeError 30 = .ok (.ireturn, 1) := by decide +kernel
theorem dX6_allOnes_0 : decode cX6_allOnes 0 = .ok (.iconst 1, 1) := by decide +kernel
theorem dX6_allOnes_1 : decode cX6_allOnes 1 = .ok (.iload_n 0, 1) := by decide +kernel
theorem dX6_allOnes_2 : decode cX6_allOnes 2 = .ok (.ishl, 1) := by decide +kernel
theorem dX6_allOnes_3 : decode cX6_allOnes 3 = .ok (.iconst 1, 1) := by decide +kernel
theorem dX6_allOnes_4 : decode cX6_allOnes 4 = .ok (.isub, 1) := by decide +kernel
theorem dX6_allOnes_5 : decode cX6_allOnes 5 = .ok (.ireturn, 1) := by decide +kernel
