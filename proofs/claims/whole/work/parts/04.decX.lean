theorem dX0_init_0 : decode cX0_init 0 = .ok (.aload_n 0, 1) := by decide +kernel
theorem dX0_init_1 : decode cX0_init 1 = .ok (.invokespecial 3, 3) := by decide +kernel
theorem dX0_init_4 : decode cX0_init 4 = .ok (.aload_n 0, 1) := by decide +kernel
theorem dX0_init_5 : decode cX0_init 5 = .ok (.iconst 0, 1) := by decide +kernel
theorem dX0_init_6 : decode cX0_init 6 = .ok (.putfield 9, 3) := by decide +kernel
theorem dX0_init_9 : decode cX0_init 9 = .ok (.aload_n 0, 1) := by decide +kernel
theorem dX0_init_10 : decode cX0_init 10 = .ok (.iconst 0, 1) := by decide +kernel
theorem dX0_init_11 : decode cX0_init 11 = .ok (.putfield 15, 3) := by decide +kernel
theorem dX0_init_14 : decode cX0_init 14 = .ok (.aload_n 0, 1) := by decide +kernel
theorem dX0_init_15 : decode cX0_init 15 = .ok (.bipush 24, 2) := by decide +kernel
theorem dX0_init_17 : decode cX0_init 17 = .ok (.newarray .int, 2) := by decide +kernel
theorem dX0_init_19 : decode cX0_init 19 = .ok (.putfield 18, 3) := by decide +kernel
theorem dX0_init_22 : decode cX0_init 22 = .ok (.aload_n 0, 1) := by decide +kernel
theorem dX0_init_23 : decode cX0_init 23 = .ok (.bipush 24, 2) := by decide +kernel
theorem dX0_init_25 : decode cX0_init 25 = .ok (.newarray .int, 2) := by decide +kernel
theorem dX0_init_27 : decode cX0_init 27 = .ok (.putfield 22, 3) := by decide +kernel
theorem dX0_init_30 : decode cX0_init 30 = .ok (.aload_n 0, 1) := by decide +kernel
theorem dX0_init_31 : decode cX0_init 31 = .ok (.bipush 24, 2) := by decide +kernel
theorem dX0_init_33 : decode cX0_init 33 = .ok (.newarray .int, 2) := by decide +kernel
theorem dX0_init_35 : decode cX0_init 35 = .ok (.putfield 25, 3) := by decide +kernel
theorem dX0_init_38 : decode cX0_init 38 = .ok (.aload_n 0, 1) := by decide +kernel
theorem dX0_init_39 : decode cX0_init 39 = .ok (.bipush 24, 2) := by decide +kernel
theorem dX0_init_41 : decode cX0_init 41 = .ok (.newarray .int, 2) := by decide +kernel
theorem dX0_init_43 : decode cX0_init 43 = .ok (.putfield 28, 3) := by decide +kernel
theorem dX0_init_46 : decode cX0_init 46 = .ok (.aload_n 0, 1) := by decide +kernel
theorem dX0_init_47 : decode cX0_init 47 = .ok (.bipush 24, 2) := by decide +kernel
theorem dX0_init_49 : decode cX0_init 49 = .ok (.newarray .int, 2) := by decide +kernel
theorem dX0_init_51 : decode cX0_init 51 = .ok (.putfield 31, 3) := by decide +kernel
theorem dX0_init_54 : decode cX0_init 54 = .ok (.aload_n 0, 1) := by decide +kernel
theorem dX0_init_55 : decode cX0_init 55 = .ok (.bipush 24, 2) := by decide +kernel
theorem dX0_init_57 : decode cX0_init 57 = .ok (.newarray .boolean, 2) := by decide +kernel
theorem dX0_init_59 : decode cX0_init 59 = .ok (.putfield 34, 3) := by decide +kernel
theorem dX0_init_62 : decode cX0_init 62 = .ok (.aload_n 0, 1) := by decide +kernel
theorem dX0_init_63 : decode cX0_init 63 = .ok (.bipush 24, 2) := by decide +kernel
theorem dX0_init_65 : decode cX0_init 65 = .ok (.newarray .int, 2) := by decide +kernel
theorem dX0_init_67 : decode cX0_init 67 = .ok (.putfield 38, 3) := by decide +kernel
theorem dX0_init_70 : decode cX0_init 70 = .ok (.aload_n 0, 1) := by decide +kernel
theorem dX0_init_71 : decode cX0_init 71 = .ok (.bipush 24, 2) := by decide +kernel
theorem dX0_init_73 : decode cX0_init 73 = .ok (.newarray .int, 2) := by decide +kernel
theorem dX0_init_75 : decode cX0_init 75 = .ok (.putfield 41, 3) := by decide +kernel
theorem dX0_init_78 : decode cX0_init 78 = .ok (.aload_n 0, 1) := by decide +kernel
theorem dX0_init_79 : decode cX0_init 79 = .ok (.bipush 24, 2) := by decide +kernel
theorem dX0_init_81 : decode cX0_init 81 = .ok (.newarray .int, 2) := by decide +kernel
theorem dX0_init_83 : decode cX0_init 83 = .ok (.putfield 44, 3) := by decide +kernel
theorem dX0_init_86 : decode cX0_init 86 = .ok (.aload_n 0, 1) := by decide +kernel
theorem dX0_init_87 : decode cX0_init 87 = .ok (.bipush 24, 2) := by decide +kernel
theorem dX0_init_89 : decode cX0_init 89 = .ok (.newarray .int, 2) := by decide +kernel
theorem dX0_init_91 : decode cX0_init 91 = .ok (.putfield 47, 3) := by decide +kernel
theorem dX0_init_94 : decode cX0_init 94 = .ok (.return_, 1) := by decide +kernel
theorem dX0_has_0 : decode cX0_has 0 = .ok (.iload_n 1, 1) := by decide +kernel
theorem dX0_has_1 : decode cX0_has 1 = .ok (.ifCond .lt 15, 3) := by decide +kernel
theorem dX0_has_4 : decode cX0_has 4 = .ok (.iload_n 1, 1) := by decide +kernel
theorem dX0_has_5 : decode cX0_has 5 = .ok (.aload_n 0, 1) := by decide +kernel
theorem dX0_has_6 : decode cX0_has 6 = .ok (.getfield 9, 3) := by decide +kernel
theorem dX0_has_9 : decode cX0_has 9 = .ok (.if_icmp .ge 7, 3) := by decide +kernel
theorem dX0_has_12 : decode cX0_has 12 = .ok (.iconst 1, 1) := by decide +kernel
theorem dX0_has_13 : decode cX0_has 13 = .ok (.goto 4, 3) := by decide +kernel
theorem dX0_has_16 : decode cX0_has 16 = .ok (.iconst 0, 1) := by decide +kernel
theorem dX0_has_17 : decode cX0_has 17 = .ok (.ireturn, 1) := by decide +kernel
theorem dX0_isFull_0 : decode cX0_isFull 0 = .ok (.aload_n 0, 1) := by decide +kernel
theorem dX0_isFull_1 : decode cX0_isFull 1 = .ok (.getfield 9, 3) := by decide +kernel
theorem dX0_isFull_4 : decode cX0_isFull 4 = .ok (.bipush 24, 2) := by decide +kernel
theorem dX0_isFull_6 : decode cX0_isFull 6 = .ok (.if_icmp .lt 7, 3) := by decide +kernel
theorem dX0_isFull_9 : decode cX0_isFull 9 = .ok (.iconst 1, 1) := by decide +kernel
theorem dX0_isFull_10 : decode cX0_isFull 10 = .ok (.goto 4, 3) := by decide +kernel
theorem dX0_isFull_13 : decode cX0_isFull 13 = .ok (.iconst 0, 1) := by decide +kernel
theorem dX0_isFull_14 : decode cX0_isFull 14 = .ok (.ireturn, 1) := by decide +kernel
theorem dX0_append_0 : decode cX0_append 0 = .ok (.aload_n 0, 1) := by decide +kernel
theorem dX0_append_1 : decode cX0_append 1 = .ok (.getfield 9, 3) := by decide +kernel
theorem dX0_append_4 : decode cX0_append 4 = .ok (.istore_n 2, 1) := by decide +kernel
theorem dX0_append_5 : decode cX0_append 5 = .ok (.aload_n 0, 1) := by decide +kernel
theorem dX0_append_6 : decode cX0_append 6 = .ok (.getfield 18, 3) := by decide +kernel
theorem dX0_append_9 : decode cX0_append 9 = .ok (.iload_n 2, 1) := by decide +kernel
theorem dX0_append_10 : decode cX0_append 10 = .ok (.aload_n 1, 1) := by decide +kernel
theorem dX0_append_11 : decode cX0_append 11 = .ok (.getfield 50, 3) := by decide +kernel
theorem dX0_append_14 : decode cX0_append 14 = .ok (.iastore, 1) := by decide +kernel
theorem dX0_append_15 : decode cX0_append 15 = .ok (.aload_n 0, 1) := by decide +kernel
theorem dX0_append_16 : decode cX0_append 16 = .ok (.getfield 22, 3) := by decide +kernel
theorem dX0_append_19 : decode cX0_append 19 = .ok (.iload_n 2, 1) := by decide +kernel
theorem dX0_append_20 : decode cX0_append 20 = .ok (.aload_n 1, 1) := by decide +kernel
theorem dX0_append_21 : decode cX0_append 21 = .ok (.getfield 54, 3) := by decide +kernel
theorem dX0_append_24 : decode cX0_append 24 = .ok (.iconst 0, 1) := by decide +kernel
theorem dX0_append_25 : decode cX0_append 25 = .ok (.iaload, 1) := by decide +kernel
theorem dX0_append_26 : decode cX0_append 26 = .ok (.iastore, 1) := by decide +kernel
theorem dX0_append_27 : decode cX0_append 27 = .ok (.aload_n 0, 1) := by decide +kernel
theorem dX0_append_28 : decode cX0_append 28 = .ok (.getfield 25, 3) := by decide +kernel
theorem dX0_append_31 : decode cX0_append 31 = .ok (.iload_n 2, 1) := by decide +kernel
theorem dX0_append_32 : decode cX0_append 32 = .ok (.aload_n 1, 1) := by decide +kernel
theorem dX0_append_33 : decode cX0_append 33 = .ok (.getfield 54, 3) := by decide +kernel
theorem dX0_append_36 : decode cX0_append 36 = .ok (.iconst 1, 1) := by decide +kernel
theorem dX0_append_37 : decode cX0_append 37 = .ok (.iaload, 1) := by decide +kernel
theorem dX0_append_38 : decode cX0_append 38 = .ok (.iastore, 1) := by decide +kernel
theorem dX0_append_39 : decode cX0_append 39 = .ok (.aload_n 0, 1) := by decide +kernel
theorem dX0_append_40 : decode cX0_append 40 = .ok (.getfield 28, 3) := by decide +kernel
theorem dX0_append_43 : decode cX0_append 43 = .ok (.iload_n 2, 1) := by decide +kernel
theorem dX0_append_44 : decode cX0_append 44 = .ok (.aload_n 1, 1) := by decide +kernel
theorem dX0_append_45 : decode cX0_append 45 = .ok (.getfield 54, 3) := by decide +kernel
theorem dX0_append_48 : decode cX0_append 48 = .ok (.iconst 2, 1) := by decide +kernel
theorem dX0_append_49 : decode cX0_append 49 = .ok (.iaload, 1) := by decide +kernel
theorem dX0_append_50 : decode cX0_append 50 = .ok (.iastore, 1) := by decide +kernel
theorem dX0_append_51 : decode cX0_append 51 = .ok (.aload_n 0, 1) := by decide +kernel
theorem dX0_append_52 : decode cX0_append 52 = .ok (.getfield 31, 3) := by decide +kernel
theorem dX0_append_55 : decode cX0_append 55 = .ok (.iload_n 2, 1) := by decide +kernel
theorem dX0_append_56 : decode cX0_append 56 = .ok (.iload_n 2, 1) := by decide +kernel
theorem dX0_append_57 : decode cX0_append 57 = .ok (.iastore, 1) := by decide +kernel
theorem dX0_append_58 : decode cX0_append 58 = .ok (.aload_n 0, 1) := by decide +kernel
theorem dX0_append_59 : decode cX0_append 59 = .ok (.getfield 34, 3) := by decide +kernel
theorem dX0_append_62 : decode cX0_append 62 = .ok (.iload_n 2, 1) := by decide +kernel
theorem dX0_append_63 : decode cX0_append 63 = .ok (.iconst 0, 1) := by decide +kernel
theorem dX0_append_64 : decode cX0_append 64 = .ok (.bastore, 1) := by decide +kernel
theorem dX0_append_65 : decode cX0_append 65 = .ok (.aload_n 0, 1) := by decide +kernel
theorem dX0_append_66 : decode cX0_append 66 = .ok (.getfield 38, 3) := by decide +kernel
theorem dX0_append_69 : decode cX0_append 69 = .ok (.iload_n 2, 1) := by decide +kernel
theorem dX0_append_70 : decode cX0_append 70 = .ok (.iconst 0, 1) := by decide +kernel
theorem dX0_append_71 : decode cX0_append 71 = .ok (.iastore, 1) := by decide +kernel
theorem dX0_append_72 : decode cX0_append 72 = .ok (.aload_n 0, 1) := by decide +kernel
theorem dX0_append_73 : decode cX0_append 73 = .ok (.getfield 41, 3) := by decide +kernel
theorem dX0_append_76 : decode cX0_append 76 = .ok (.iload_n 2, 1) := by decide +kernel
theorem dX0_append_77 : decode cX0_append 77 = .ok (.aload_n 1, 1) := by decide +kernel
theorem dX0_append_78 : decode cX0_append 78 = .ok (.getfield 54, 3) := by decide +kernel
theorem dX0_append_81 : decode cX0_append 81 = .ok (.iconst 0, 1) := by decide +kernel
theorem dX0_append_82 : decode cX0_append 82 = .ok (.iaload, 1) := by decide +kernel
theorem dX0_append_83 : decode cX0_append 83 = .ok (.iastore, 1) := by decide +kernel
theorem dX0_append_84 : decode cX0_append 84 = .ok (.aload_n 0, 1) := by decide +kernel
theorem dX0_append_85 : decode cX0_append 85 = .ok (.iload_n 2, 1) := by decide +kernel
theorem dX0_append_86 : decode cX0_append 86 = .ok (.iconst 1, 1) := by decide +kernel
theorem dX0_append_87 : decode cX0_append 87 = .ok (.iadd, 1) := by decide +kernel
theorem dX0_append_88 : decode cX0_append 88 = .ok (.putfield 9, 3) := by decide +kernel
theorem dX0_append_91 : decode cX0_append 91 = .ok (.return_, 1) := by decide +kernel
theorem dX0_dropLast_0 : decode cX0_dropLast 0 = .ok (.aload_n 0, 1) := by decide +kernel
theorem dX0_dropLast_1 : decode cX0_dropLast 1 = .ok (.dup, 1) := by decide +kernel
theorem dX0_dropLast_2 : decode cX0_dropLast 2 = .ok (.getfield 9, 3) := by decide +kernel
theorem dX0_dropLast_5 : decode cX0_dropLast 5 = .ok (.iconst 1, 1) := by decide +kernel
theorem dX0_dropLast_6 : decode cX0_dropLast 6 = .ok (.isub, 1) := by decide +kernel
theorem dX0_dropLast_7 : decode cX0_dropLast 7 = .ok (.putfield 9, 3) := by decide +kernel
theorem dX0_dropLast_10 : decode cX0_dropLast 10 = .ok (.iconst 0, 1) := by decide +kernel
theorem dX0_dropLast_11 : decode cX0_dropLast 11 = .ok (.istore_n 1, 1) := by decide +kernel
theorem dX0_dropLast_12 : decode cX0_dropLast 12 = .ok (.iload_n 1, 1) := by decide +kernel
theorem dX0_dropLast_13 : decode cX0_dropLast 13 = .ok (.aload_n 0, 1) := by decide +kernel
theorem dX0_dropLast_14 : decode cX0_dropLast 14 = .ok (.getfield 9, 3) := by decide +kernel
theorem dX0_dropLast_17 : decode cX0_dropLast 17 = .ok (.if_icmp .ge 29, 3) := by decide +kernel
theorem dX0_dropLast_20 : decode cX0_dropLast 20 = .ok (.aload_n 0, 1) := by decide +kernel
theorem dX0_dropLast_21 : decode cX0_dropLast 21 = .ok (.getfield 31, 3) := by decide +kernel
theorem dX0_dropLast_24 : decode cX0_dropLast 24 = .ok (.iload_n 1, 1) := by decide +kernel
theorem dX0_dropLast_25 : decode cX0_dropLast 25 = .ok (.iaload, 1) := by decide +kernel
theorem dX0_dropLast_26 : decode cX0_dropLast 26 = .ok (.aload_n 0, 1) := by decide +kernel
theorem dX0_dropLast_27 : decode cX0_dropLast 27 = .ok (.getfield 9, 3) := by decide +kernel
theorem dX0_dropLast_30 : decode cX0_dropLast 30 = .ok (.if_icmp .ne 10, 3) := by decide +kernel
theorem dX0_dropLast_33 : decode cX0_dropLast 33 = .ok (.aload_n 0, 1) := by decide +kernel
theorem dX0_dropLast_34 : decode cX0_dropLast 34 = .ok (.getfield 31, 3) := by decide +kernel
theorem dX0_dropLast_37 : decode cX0_dropLast 37 = .ok (.iload_n 1, 1) := by decide +kernel
theorem dX0_dropLast_38 : decode cX0_dropLast 38 = .ok (.iload_n 1, 1) := by decide +kernel
theorem dX0_dropLast_39 : decode cX0_dropLast 39 = .ok (.iastore, 1) := by decide +kernel
theorem dX0_dropLast_40 : decode cX0_dropLast 40 = .ok (.iinc 1 1, 3) := by decide +kernel
theorem dX0_dropLast_43 : decode cX0_dropLast 43 = .ok (.goto (-31), 3) := by decide +kernel
theorem dX0_dropLast_46 : decode cX0_dropLast 46 = .ok (.aload_n 0, 1) := by decide +kernel
theorem dX0_dropLast_47 : decode cX0_dropLast 47 = .ok (.getfield 18, 3) := by decide +kernel
theorem dX0_dropLast_50 : decode cX0_dropLast 50 = .ok (.aload_n 0, 1) := by decide +kernel
theorem dX0_dropLast_51 : decode cX0_dropLast 51 = .ok (.getfield 9, 3) := by decide +kernel
theorem dX0_dropLast_54 : decode cX0_dropLast 54 = .ok (.iaload, 1) := by decide +kernel
theorem dX0_dropLast_55 : decode cX0_dropLast 55 = .ok (.ireturn, 1) := by decide +kernel
theorem dX0_rewind_0 : decode cX0_rewind 0 = .ok (.aload_n 0, 1) := by decide +kernel
theorem dX0_rewind_1 : decode cX0_rewind 1 = .ok (.iconst 0, 1) := by decide +kernel
theorem dX0_rewind_2 : decode cX0_rewind 2 = .ok (.putfield 15, 3) := by decide +kernel
theorem dX0_rewind_5 : decode cX0_rewind 5 = .ok (.iconst 0, 1) := by decide +kernel
theorem dX0_rewind_6 : decode cX0_rewind 6 = .ok (.istore_n 1, 1) := by decide +kernel
theorem dX0_rewind_7 : decode cX0_rewind 7 = .ok (.iload_n 1, 1) := by decide +kernel
theorem dX0_rewind_8 : decode cX0_rewind 8 = .ok (.aload_n 0, 1) := by decide +kernel
theorem dX0_rewind_9 : decode cX0_rewind 9 = .ok (.getfield 9, 3) := by decide +kernel
theorem dX0_rewind_12 : decode cX0_rewind 12 = .ok (.if_icmp .ge 33, 3) := by decide +kernel
theorem dX0_rewind_15 : decode cX0_rewind 15 = .ok (.aload_n 0, 1) := by decide +kernel
theorem dX0_rewind_16 : decode cX0_rewind 16 = .ok (.getfield 44, 3) := by decide +kernel
theorem dX0_rewind_19 : decode cX0_rewind 19 = .ok (.iload_n 1, 1) := by decide +kernel
theorem dX0_rewind_20 : decode cX0_rewind 20 = .ok (.aload_n 0, 1) := by decide +kernel
theorem dX0_rewind_21 : decode cX0_rewind 21 = .ok (.getfield 22, 3) := by decide +kernel
theorem dX0_rewind_24 : decode cX0_rewind 24 = .ok (.iload_n 1, 1) := by decide +kernel
theorem dX0_rewind_25 : decode cX0_rewind 25 = .ok (.iaload, 1) := by decide +kernel
theorem dX0_rewind_26 : decode cX0_rewind 26 = .ok (.iastore, 1) := by decide +kernel
theorem dX0_rewind_27 : decode cX0_rewind 27 = .ok (.aload_n 0, 1) := by decide +kernel
theorem dX0_rewind_28 : decode cX0_rewind 28 = .ok (.getfield 47, 3) := by decide +kernel
theorem dX0_rewind_31 : decode cX0_rewind 31 = .ok (.iload_n 1, 1) := by decide +kernel
theorem dX0_rewind_32 : decode cX0_rewind 32 = .ok (.aload_n 0, 1) := by decide +kernel
theorem dX0_rewind_33 : decode cX0_rewind 33 = .ok (.getfield 22, 3) := by decide +kernel
theorem dX0_rewind_36 : decode cX0_rewind 36 = .ok (.iload_n 1, 1) := by decide +kernel
theorem dX0_rewind_37 : decode cX0_rewind 37 = .ok (.iaload, 1) := by decide +kernel
theorem dX0_rewind_38 : decode cX0_rewind 38 = .ok (.iastore, 1) := by decide +kernel
theorem dX0_rewind_39 : decode cX0_rewind 39 = .ok (.iinc 1 1, 3) := by decide +kernel
theorem dX0_rewind_42 : decode cX0_rewind 42 = .ok (.goto (-35), 3) := by decide +kernel
theorem dX0_rewind_45 : decode cX0_rewind 45 = .ok (.return_, 1) := by decide +kernel
theorem dX0_takeOver_0 : decode cX0_takeOver 0 = .ok (.iconst 0, 1) := by decide +kernel
theorem dX0_takeOver_1 : decode cX0_takeOver 1 = .ok (.istore_n 3, 1) := by decide +kernel
theorem dX0_takeOver_2 : decode cX0_takeOver 2 = .ok (.iload_n 3, 1) := by decide +kernel
theorem dX0_takeOver_3 : decode cX0_takeOver 3 = .ok (.aload_n 0, 1) := by decide +kernel
theorem dX0_takeOver_4 : decode cX0_takeOver 4 = .ok (.getfield 9, 3) := by decide +kernel
theorem dX0_takeOver_7 : decode cX0_takeOver 7 = .ok (.if_icmp .ge 30, 3) := by decide +kernel
theorem dX0_takeOver_10 : decode cX0_takeOver 10 = .ok (.aload_n 0, 1) := by decide +kernel
theorem dX0_takeOver_11 : decode cX0_takeOver 11 = .ok (.getfield 18, 3) := by decide +kernel
theorem dX0_takeOver_14 : decode cX0_takeOver 14 = .ok (.iload_n 3, 1) := by decide +kernel
theorem dX0_takeOver_15 : decode cX0_takeOver 15 = .ok (.iaload, 1) := by decide +kernel
theorem dX0_takeOver_16 : decode cX0_takeOver 16 = .ok (.iconst 2, 1) := by decide +kernel
theorem dX0_takeOver_17 : decode cX0_takeOver 17 = .ok (.if_icmp .ne 14, 3) := by decide +kernel
theorem dX0_takeOver_20 : decode cX0_takeOver 20 = .ok (.aload_n 1, 1) := by decide +kernel
theorem dX0_takeOver_21 : decode cX0_takeOver 21 = .ok (.iload_n 3, 1) := by decide +kernel
theorem dX0_takeOver_22 : decode cX0_takeOver 22 = .ok (.aload_n 2, 1) := by decide +kernel
theorem dX0_takeOver_23 : decode cX0_takeOver 23 = .ok (.aload_n 0, 1) := by decide +kernel
theorem dX0_takeOver_24 : decode cX0_takeOver 24 = .ok (.getfield 31, 3) := by decide +kernel
theorem dX0_takeOver_27 : decode cX0_takeOver 27 = .ok (.iload_n 3, 1) := by decide +kernel
theorem dX0_takeOver_28 : decode cX0_takeOver 28 = .ok (.iaload, 1) := by decide +kernel
theorem dX0_takeOver_29 : decode cX0_takeOver 29 = .ok (.iaload, 1) := by decide +kernel
theorem dX0_takeOver_30 : decode cX0_takeOver 30 = .ok (.iastore, 1) := by decide +kernel
theorem dX0_takeOver_31 : decode cX0_takeOver 31 = .ok (.iinc 3 1, 3) := by decide +kernel
theorem dX0_takeOver_34 : decode cX0_takeOver 34 = .ok (.goto (-32), 3) := by decide +kernel
theorem dX0_takeOver_37 : decode cX0_takeOver 37 = .ok (.return_, 1) := by decide +kernel
theorem dX0_copyFrom_0 : decode cX0_copyFrom 0 = .ok (.aload_n 0, 1) := by decide +kernel
theorem dX0_copyFrom_1 : decode cX0_copyFrom 1 = .ok (.aload_n 1, 1) := by decide +kernel
theorem dX0_copyFrom_2 : decode cX0_copyFrom 2 = .ok (.getfield 9, 3) := by decide +kernel
theorem dX0_copyFrom_5 : decode cX0_copyFrom 5 = .ok (.putfield 9, 3) := by decide +kernel
theorem dX0_copyFrom_8 : decode cX0_copyFrom 8 = .ok (.aload_n 0, 1) := by decide +kernel
theorem dX0_copyFrom_9 : decode cX0_copyFrom 9 = .ok (.aload_n 1, 1) := by decide +kernel
theorem dX0_copyFrom_10 : decode cX0_copyFrom 10 = .ok (.getfield 15, 3) := by decide +kernel
theorem dX0_copyFrom_13 : decode cX0_copyFrom 13 = .ok (.putfield 15, 3) := by decide +kernel
theorem dX0_copyFrom_16 : decode cX0_copyFrom 16 = .ok (.aload_n 1, 1) := by decide +kernel
theorem dX0_copyFrom_17 : decode cX0_copyFrom 17 = .ok (.getfield 18, 3) := by decide +kernel
theorem dX0_copyFrom_20 : decode cX0_copyFrom 20 = .ok (.aload_n 0, 1) := by decide +kernel
theorem dX0_copyFrom_21 : decode cX0_copyFrom 21 = .ok (.getfield 18, 3) := by decide +kernel
theorem dX0_copyFrom_24 : decode cX0_copyFrom 24 = .ok (.invokestatic 57, 3) := by decide +kernel
theorem dX0_copyFrom_27 : decode cX0_copyFrom 27 = .ok (.aload_n 1, 1) := by decide +kernel
theorem dX0_copyFrom_28 : decode cX0_copyFrom 28 = .ok (.getfield 22, 3) := by decide +kernel
theorem dX0_copyFrom_31 : decode cX0_copyFrom 31 = .ok (.aload_n 0, 1) := by decide +kernel
theorem dX0_copyFrom_32 : decode cX0_copyFrom 32 = .ok (.getfield 22, 3) := by decide +kernel
theorem dX0_copyFrom_35 : decode cX0_copyFrom 35 = .ok (.invokestatic 57, 3) := by decide +kernel
theorem dX0_copyFrom_38 : decode cX0_copyFrom 38 = .ok (.aload_n 1, 1) := by decide +kernel
theorem dX0_copyFrom_39 : decode cX0_copyFrom 39 = .ok (.getfield 25, 3) := by decide +kernel
theorem dX0_copyFrom_42 : decode cX0_copyFrom 42 = .ok (.aload_n 0, 1) := by decide +kernel
theorem dX0_copyFrom_43 : decode cX0_copyFrom 43 = .ok (.getfield 25, 3) := by decide +kernel
theorem dX0_copyFrom_46 : decode cX0_copyFrom 46 = .ok (.invokestatic 57, 3) := by decide +kernel
theorem dX0_copyFrom_49 : decode cX0_copyFrom 49 = .ok (.aload_n 1, 1) := by decide +kernel
theorem dX0_copyFrom_50 : decode cX0_copyFrom 50 = .ok (.getfield 28, 3) := by decide +kernel
theorem dX0_copyFrom_53 : decode cX0_copyFrom 53 = .ok (.aload_n 0, 1) := by decide +kernel
theorem dX0_copyFrom_54 : decode cX0_copyFrom 54 = .ok (.getfield 28, 3) := by decide +kernel
theorem dX0_copyFrom_57 : decode cX0_copyFrom 57 = .ok (.invokestatic 57, 3) := by decide +kernel
theorem dX0_copyFrom_60 : decode cX0_copyFrom 60 = .ok (.aload_n 1, 1) := by decide +kernel
theorem dX0_copyFrom_61 : decode cX0_copyFrom 61 = .ok (.getfield 31, 3) := by decide +kernel
theorem dX0_copyFrom_64 : decode cX0_copyFrom 64 = .ok (.aload_n 0, 1) := by decide +kernel
theorem dX0_copyFrom_65 : decode cX0_copyFrom 65 = .ok (.getfield 31, 3) := by decide +kernel
theorem dX0_copyFrom_68 : decode cX0_copyFrom 68 = .ok (.invokestatic 57, 3) := by decide +kernel
theorem dX0_copyFrom_71 : decode cX0_copyFrom 71 = .ok (.aload_n 1, 1) := by decide +kernel
theorem dX0_copyFrom_72 : decode cX0_copyFrom 72 = .ok (.getfield 38, 3) := by decide +kernel
theorem dX0_copyFrom_75 : decode cX0_copyFrom 75 = .ok (.aload_n 0, 1) := by decide +kernel
theorem dX0_copyFrom_76 : decode cX0_copyFrom 76 = .ok (.getfield 38, 3) := by decide +kernel
theorem dX0_copyFrom_79 : decode cX0_copyFrom 79 = .ok (.invokestatic 57, 3) := by decide +kernel
theorem dX0_copyFrom_82 : decode cX0_copyFrom 82 = .ok (.aload_n 1, 1) := by decide +kernel
theorem dX0_copyFrom_83 : decode cX0_copyFrom 83 = .ok (.getfield 41, 3) := by decide +kernel
theorem dX0_copyFrom_86 : decode cX0_copyFrom 86 = .ok (.aload_n 0, 1) := by decide +kernel
theorem dX0_copyFrom_87 : decode cX0_copyFrom 87 = .ok (.getfield 41, 3) := by decide +kernel
theorem dX0_copyFrom_90 : decode cX0_copyFrom 90 = .ok (.invokestatic 57, 3) := by decide +kernel
theorem dX0_copyFrom_93 : decode cX0_copyFrom 93 = .ok (.aload_n 1, 1) := by decide +kernel
theorem dX0_copyFrom_94 : decode cX0_copyFrom 94 = .ok (.getfield 44, 3) := by decide +kernel
theorem dX0_copyFrom_97 : decode cX0_copyFrom 97 = .ok (.aload_n 0, 1) := by decide +kernel
theorem dX0_copyFrom_98 : decode cX0_copyFrom 98 = .ok (.getfield 44, 3) := by decide +kernel
theorem dX0_copyFrom_101 : decode cX0_copyFrom 101 = .ok (.invokestatic 57, 3) := by decide +kernel
theorem dX0_copyFrom_104 : decode cX0_copyFrom 104 = .ok (.aload_n 1, 1) := by decide +kernel
theorem dX0_copyFrom_105 : decode cX0_copyFrom 105 = .ok (.getfield 47, 3) := by decide +kernel
theorem dX0_copyFrom_108 : decode cX0_copyFrom 108 = .ok (.aload_n 0, 1) := by decide +kernel
theorem dX0_copyFrom_109 : decode cX0_copyFrom 109 = .ok (.getfield 47, 3) := by decide +kernel
theorem dX0_copyFrom_112 : decode cX0_copyFrom 112 = .ok (.invokestatic 57, 3) := by decide +kernel
theorem dX0_copyFrom_115 : decode cX0_copyFrom 115 = .ok (.iconst 0, 1) := by decide +kernel
theorem dX0_copyFrom_116 : decode cX0_copyFrom 116 = .ok (.istore_n 2, 1) := by decide +kernel
theorem dX0_copyFrom_117 : decode cX0_copyFrom 117 = .ok (.iload_n 2, 1) := by decide +kernel
theorem dX0_copyFrom_118 : decode cX0_copyFrom 118 = .ok (.bipush 24, 2) := by decide +kernel
theorem dX0_copyFrom_120 : decode cX0_copyFrom 120 = .ok (.if_icmp .ge 21, 3) := by decide +kernel
theorem dX0_copyFrom_123 : decode cX0_copyFrom 123 = .ok (.aload_n 0, 1) := by decide +kernel
theorem dX0_copyFrom_124 : decode cX0_copyFrom 124 = .ok (.getfield 34, 3) := by decide +kernel
theorem dX0_copyFrom_127 : decode cX0_copyFrom 127 = .ok (.iload_n 2, 1) := by decide +kernel
theorem dX0_copyFrom_128 : decode cX0_copyFrom 128 = .ok (.aload_n 1, 1) := by decide +kernel
theorem dX0_copyFrom_129 : decode cX0_copyFrom 129 = .ok (.getfield 34, 3) := by decide +kernel
theorem dX0_copyFrom_132 : decode cX0_copyFrom 132 = .ok (.iload_n 2, 1) := by decide +kernel
theorem dX0_copyFrom_133 : decode cX0_copyFrom 133 = .ok (.baload, 1) := by decide +kernel
theorem dX0_copyFrom_134 : decode cX0_copyFrom 134 = .ok (.bastore, 1) := by decide +kernel
theorem dX0_copyFrom_135 : decode cX0_copyFrom 135 = .ok (.iinc 2 1, 3) := by decide +kernel
theorem dX0_copyFrom_138 : decode cX0_copyFrom 138 = .ok (.goto (-21), 3) := by decide +kernel
theorem dX0_copyFrom_141 : decode cX0_copyFrom 141 = .ok (.return_, 1) := by decide +kernel
theorem dX0_copyRow_0 : decode cX0_copyRow 0 = .ok (.aload_n 0, 1) := by decide +kernel
theorem dX0_copyRow_1 : decode cX0_copyRow 1 = .ok (.iconst 0, 1) := by decide +kernel
theorem dX0_copyRow_2 : decode cX0_copyRow 2 = .ok (.aload_n 1, 1) := by decide +kernel
theorem dX0_copyRow_3 : decode cX0_copyRow 3 = .ok (.iconst 0, 1) := by decide +kernel
theorem dX0_copyRow_4 : decode cX0_copyRow 4 = .ok (.bipush 24, 2) := by decide +kernel
theorem dX0_copyRow_6 : decode cX0_copyRow 6 = .ok (.invokestatic 61, 3) := by decide +kernel
theorem dX0_copyRow_9 : decode cX0_copyRow 9 = .ok (.return_, 1) := by decide +kernel
theorem dX1_init_0 : decode cX1_init 0 = .ok (.aload_n 0, 1) := by decide +kernel
theorem dX1_init_1 : decode cX1_init 1 = .ok (.invokespecial 3, 3) := by decide +kernel
theorem dX1_init_4 : decode cX1_init 4 = .ok (.aload_n 0, 1) := by decide +kernel
theorem dX1_init_5 : decode cX1_init 5 = .ok (.iconst 0, 1) := by decide +kernel
theorem dX1_init_6 : decode cX1_init 6 = .ok (.putfield 9, 3) := by decide +kernel
theorem dX1_init_9 : decode cX1_init 9 = .ok (.aload_n 0, 1) := by decide +kernel
theorem dX1_init_10 : decode cX1_init 10 = .ok (.iconst 3, 1) := by decide +kernel
theorem dX1_init_11 : decode cX1_init 11 = .ok (.newarray .int, 2) := by decide +kernel
theorem dX1_init_13 : decode cX1_init 13 = .ok (.putfield 15, 3) := by decide +kernel
theorem dX1_init_16 : decode cX1_init 16 = .ok (.aload_n 0, 1) := by decide +kernel
theorem dX1_init_17 : decode cX1_init 17 = .ok (.iconst 3, 1) := by decide +kernel
theorem dX1_init_18 : decode cX1_init 18 = .ok (.newarray .int, 2) := by decide +kernel
theorem dX1_init_20 : decode cX1_init 20 = .ok (.putfield 19, 3) := by decide +kernel
theorem dX1_init_23 : decode cX1_init 23 = .ok (.return_, 1) := by decide +kernel
theorem dX1_forget_0 : decode cX1_forget 0 = .ok (.aload_n 0, 1) := by decide +kernel
theorem dX1_forget_1 : decode cX1_forget 1 = .ok (.iconst 0, 1) := by decide +kernel
theorem dX1_forget_2 : decode cX1_forget 2 = .ok (.putfield 9, 3) := by decide +kernel
theorem dX1_forget_5 : decode cX1_forget 5 = .ok (.return_, 1) := by decide +kernel
theorem dX1_become_0 : decode cX1_become 0 = .ok (.aload_n 0, 1) := by decide +kernel
theorem dX1_become_1 : decode cX1_become 1 = .ok (.getfield 15, 3) := by decide +kernel
theorem dX1_become_4 : decode cX1_become 4 = .ok (.iconst 0, 1) := by decide +kernel
theorem dX1_become_5 : decode cX1_become 5 = .ok (.iconst 1, 1) := by decide +kernel
theorem dX1_become_6 : decode cX1_become 6 = .ok (.iastore, 1) := by decide +kernel
theorem dX1_become_7 : decode cX1_become 7 = .ok (.aload_n 0, 1) := by decide +kernel
theorem dX1_become_8 : decode cX1_become 8 = .ok (.getfield 19, 3) := by decide +kernel
theorem dX1_become_11 : decode cX1_become 11 = .ok (.iconst 0, 1) := by decide +kernel
theorem dX1_become_12 : decode cX1_become 12 = .ok (.iload_n 1, 1) := by decide +kernel
theorem dX1_become_13 : decode cX1_become 13 = .ok (.iastore, 1) := by decide +kernel
theorem dX1_become_14 : decode cX1_become 14 = .ok (.aload_n 0, 1) := by decide +kernel
theorem dX1_become_15 : decode cX1_become 15 = .ok (.getfield 15, 3) := by decide +kernel
theorem dX1_become_18 : decode cX1_become 18 = .ok (.iconst 1, 1) := by decide +kernel
theorem dX1_become_19 : decode cX1_become 19 = .ok (.iload_n 2, 1) := by decide +kernel
theorem dX1_become_20 : decode cX1_become 20 = .ok (.iastore, 1) := by decide +kernel
theorem dX1_become_21 : decode cX1_become 21 = .ok (.aload_n 0, 1) := by decide +kernel
theorem dX1_become_22 : decode cX1_become 22 = .ok (.getfield 19, 3) := by decide +kernel
theorem dX1_become_25 : decode cX1_become 25 = .ok (.iconst 1, 1) := by decide +kernel
theorem dX1_become_26 : decode cX1_become 26 = .ok (.iload_n 3, 1) := by decide +kernel
theorem dX1_become_27 : decode cX1_become 27 = .ok (.iastore, 1) := by decide +kernel
theorem dX1_become_28 : decode cX1_become 28 = .ok (.aload_n 0, 1) := by decide +kernel
theorem dX1_become_29 : decode cX1_become 29 = .ok (.iconst 2, 1) := by decide +kernel
theorem dX1_become_30 : decode cX1_become 30 = .ok (.putfield 9, 3) := by decide +kernel
theorem dX1_become_33 : decode cX1_become 33 = .ok (.return_, 1) := by decide +kernel
theorem dX1_addCause_0 : decode cX1_addCause 0 = .ok (.aload_n 0, 1) := by decide +kernel
theorem dX1_addCause_1 : decode cX1_addCause 1 = .ok (.getfield 15, 3) := by decide +kernel
theorem dX1_addCause_4 : decode cX1_addCause 4 = .ok (.iconst 2, 1) := by decide +kernel
theorem dX1_addCause_5 : decode cX1_addCause 5 = .ok (.iload_n 1, 1) := by decide +kernel
theorem dX1_addCause_6 : decode cX1_addCause 6 = .ok (.iastore, 1) := by decide +kernel
theorem dX1_addCause_7 : decode cX1_addCause 7 = .ok (.aload_n 0, 1) := by decide +kernel
theorem dX1_addCause_8 : decode cX1_addCause 8 = .ok (.getfield 19, 3) := by decide +kernel
theorem dX1_addCause_11 : decode cX1_addCause 11 = .ok (.iconst 2, 1) := by decide +kernel
theorem dX1_addCause_12 : decode cX1_addCause 12 = .ok (.iload_n 2, 1) := by decide +kernel
theorem dX1_addCause_13 : decode cX1_addCause 13 = .ok (.iastore, 1) := by decide +kernel
theorem dX1_addCause_14 : decode cX1_addCause 14 = .ok (.aload_n 0, 1) := by decide +kernel
theorem dX1_addCause_15 : decode cX1_addCause 15 = .ok (.iconst 3, 1) := by decide +kernel
theorem dX1_addCause_16 : decode cX1_addCause 16 = .ok (.putfield 9, 3) := by decide +kernel
theorem dX1_addCause_19 : decode cX1_addCause 19 = .ok (.return_, 1) := by decide +kernel
theorem dX2_init_0 : decode cX2_init 0 = .ok (.aload_n 0, 1) := by decide +kernel
theorem dX2_init_1 : decode cX2_init 1 = .ok (.invokespecial 3, 3) := by decide +kernel
theorem dX2_init_4 : decode cX2_init 4 = .ok (.aload_n 0, 1) := by decide +kernel
theorem dX2_init_5 : decode cX2_init 5 = .ok (.iconst 0, 1) := by decide +kernel
theorem dX2_init_6 : decode cX2_init 6 = .ok (.putfield 9, 3) := by decide +kernel
theorem dX2_init_9 : decode cX2_init 9 = .ok (.aload_n 0, 1) := by decide +kernel
theorem dX2_init_10 : decode cX2_init 10 = .ok (.iconst 3, 1) := by decide +kernel
theorem dX2_init_11 : decode cX2_init 11 = .ok (.newarray .int, 2) := by decide +kernel
theorem dX2_init_13 : decode cX2_init 13 = .ok (.putfield 15, 3) := by decide +kernel
theorem dX2_init_16 : decode cX2_init 16 = .ok (.return_, 1) := by decide +kernel
theorem dX2_become_0 : decode cX2_become 0 = .ok (.aload_n 0, 1) := by decide +kernel
theorem dX2_become_1 : decode cX2_become 1 = .ok (.iload_n 1, 1) := by decide +kernel
theorem dX2_become_2 : decode cX2_become 2 = .ok (.putfield 9, 3) := by decide +kernel
theorem dX2_become_5 : decode cX2_become 5 = .ok (.aload_n 0, 1) := by decide +kernel
theorem dX2_become_6 : decode cX2_become 6 = .ok (.getfield 15, 3) := by decide +kernel
theorem dX2_become_9 : decode cX2_become 9 = .ok (.iconst 0, 1) := by decide +kernel
theorem dX2_become_10 : decode cX2_become 10 = .ok (.iload_n 2, 1) := by decide +kernel
theorem dX2_become_11 : decode cX2_become 11 = .ok (.iastore, 1) := by decide +kernel
theorem dX2_become_12 : decode cX2_become 12 = .ok (.aload_n 0, 1) := by decide +kernel
theorem dX2_become_13 : decode cX2_become 13 = .ok (.getfield 15, 3) := by decide +kernel
theorem dX2_become_16 : decode cX2_become 16 = .ok (.iconst 1, 1) := by decide +kernel
theorem dX2_become_17 : decode cX2_become 17 = .ok (.aload_n 0, 1) := by decide +kernel
theorem dX2_become_18 : decode cX2_become 18 = .ok (.iconst 1, 1) := by decide +kernel
theorem dX2_become_19 : decode cX2_become 19 = .ok (.invokevirtual 19, 3) := by decide +kernel
theorem dX2_become_22 : decode cX2_become 22 = .ok (.ifCond .ne 7, 3) := by decide +kernel
theorem dX2_become_25 : decode cX2_become 25 = .ok (.iconst 0, 1) := by decide +kernel
theorem dX2_become_26 : decode cX2_become 26 = .ok (.goto 4, 3) := by decide +kernel
theorem dX2_become_29 : decode cX2_become 29 = .ok (.iload_n 3, 1) := by decide +kernel
theorem dX2_become_30 : decode cX2_become 30 = .ok (.iastore, 1) := by decide +kernel
theorem dX2_become_31 : decode cX2_become 31 = .ok (.aload_n 0, 1) := by decide +kernel
theorem dX2_become_32 : decode cX2_become 32 = .ok (.getfield 15, 3) := by decide +kernel
theorem dX2_become_35 : decode cX2_become 35 = .ok (.iconst 2, 1) := by decide +kernel
theorem dX2_become_36 : decode cX2_become 36 = .ok (.aload_n 0, 1) := by decide +kernel
theorem dX2_become_37 : decode cX2_become 37 = .ok (.iconst 2, 1) := by decide +kernel
theorem dX2_become_38 : decode cX2_become 38 = .ok (.invokevirtual 19, 3) := by decide +kernel
theorem dX2_become_41 : decode cX2_become 41 = .ok (.ifCond .ne 7, 3) := by decide +kernel
theorem dX2_become_44 : decode cX2_become 44 = .ok (.iconst 0, 1) := by decide +kernel
theorem dX2_become_45 : decode cX2_become 45 = .ok (.goto 5, 3) := by decide +kernel
theorem dX2_become_48 : decode cX2_become 48 = .ok (.iload 4, 2) := by decide +kernel
theorem dX2_become_50 : decode cX2_become 50 = .ok (.iastore, 1) := by decide +kernel
theorem dX2_become_51 : decode cX2_become 51 = .ok (.return_, 1) := by decide +kernel
theorem dX2_roleOf_0 : decode cX2_roleOf 0 = .ok (.aload_n 0, 1) := by decide +kernel
theorem dX2_roleOf_1 : decode cX2_roleOf 1 = .ok (.getfield 9, 3) := by decide +kernel
theorem dX2_roleOf_4 : decode cX2_roleOf 4 = .ok (.tableswitch 128 0 14 #[76, 87, 87, 128, 128, 128, 128, 128, 128, 97, 97, 128, 116, 128, 118], 76) := by decide +kernel
theorem dX2_roleOf_80 : decode cX2_roleOf 80 = .ok (.iload_n 1, 1) := by decide +kernel
theorem dX2_roleOf_81 : decode cX2_roleOf 81 = .ok (.iconst 1, 1) := by decide +kernel
theorem dX2_roleOf_82 : decode cX2_roleOf 82 = .ok (.if_icmp .gt 7, 3) := by decide +kernel
theorem dX2_roleOf_85 : decode cX2_roleOf 85 = .ok (.iconst 1, 1) := by decide +kernel
theorem dX2_roleOf_86 : decode cX2_roleOf 86 = .ok (.goto 4, 3) := by decide +kernel
theorem dX2_roleOf_89 : decode cX2_roleOf 89 = .ok (.iconst 0, 1) := by decide +kernel
theorem dX2_roleOf_90 : decode cX2_roleOf 90 = .ok (.ireturn, 1) := by decide +kernel
theorem dX2_roleOf_91 : decode cX2_roleOf 91 = .ok (.iload_n 1, 1) := by decide +kernel
theorem dX2_roleOf_92 : decode cX2_roleOf 92 = .ok (.ifCond .ne 7, 3) := by decide +kernel
theorem dX2_roleOf_95 : decode cX2_roleOf 95 = .ok (.iconst 1, 1) := by decide +kernel
theorem dX2_roleOf_96 : decode cX2_roleOf 96 = .ok (.goto 4, 3) := by decide +kernel
theorem dX2_roleOf_99 : decode cX2_roleOf 99 = .ok (.iconst 0, 1) := by decide +kernel
theorem dX2_roleOf_100 : decode cX2_roleOf 100 = .ok (.ireturn, 1) := by decide +kernel
theorem dX2_roleOf_101 : decode cX2_roleOf 101 = .ok (.iload_n 1, 1) := by decide +kernel
theorem dX2_roleOf_102 : decode cX2_roleOf 102 = .ok (.ifCond .ne 7, 3) := by decide +kernel
theorem dX2_roleOf_105 : decode cX2_roleOf 105 = .ok (.iconst 2, 1) := by decide +kernel
theorem dX2_roleOf_106 : decode cX2_roleOf 106 = .ok (.goto 13, 3) := by decide +kernel
theorem dX2_roleOf_109 : decode cX2_roleOf 109 = .ok (.iload_n 1, 1) := by decide +kernel
theorem dX2_roleOf_110 : decode cX2_roleOf 110 = .ok (.iconst 1, 1) := by decide +kernel
theorem dX2_roleOf_111 : decode cX2_roleOf 111 = .ok (.if_icmp .ne 7, 3) := by decide +kernel
theorem dX2_roleOf_114 : decode cX2_roleOf 114 = .ok (.iconst 1, 1) := by decide +kernel
theorem dX2_roleOf_115 : decode cX2_roleOf 115 = .ok (.goto 4, 3) := by decide +kernel
theorem dX2_roleOf_118 : decode cX2_roleOf 118 = .ok (.iconst 0, 1) := by decide +kernel
theorem dX2_roleOf_119 : decode cX2_roleOf 119 = .ok (.ireturn, 1) := by decide +kernel
theorem dX2_roleOf_120 : decode cX2_roleOf 120 = .ok (.iconst 2, 1) := by decide +kernel
theorem dX2_roleOf_121 : decode cX2_roleOf 121 = .ok (.ireturn, 1) := by decide +kernel
theorem dX2_roleOf_122 : decode cX2_roleOf 122 = .ok (.iload_n 1, 1) := by decide +kernel
theorem dX2_roleOf_123 : decode cX2_roleOf 123 = .ok (.ifCond .ne 7, 3) := by decide +kernel
theorem dX2_roleOf_126 : decode cX2_roleOf 126 = .ok (.iconst 2, 1) := by decide +kernel
theorem dX2_roleOf_127 : decode cX2_roleOf 127 = .ok (.goto 4, 3) := by decide +kernel
theorem dX2_roleOf_130 : decode cX2_roleOf 130 = .ok (.iconst 0, 1) := by decide +kernel
theorem dX2_roleOf_131 : decode cX2_roleOf 131 = .ok (.ireturn, 1) := by decide +kernel
theorem dX2_roleOf_132 : decode cX2_roleOf 132 = .ok (.iload_n 1, 1) := by decide +kernel
theorem dX2_roleOf_133 : decode cX2_roleOf 133 = .ok (.iconst 1, 1) := by decide +kernel
theorem dX2_roleOf_134 : decode cX2_roleOf 134 = .ok (.if_icmp .gt 7, 3) := by decide +kernel
theorem dX2_roleOf_137 : decode cX2_roleOf 137 = .ok (.iconst 2, 1) := by decide +kernel
theorem dX2_roleOf_138 : decode cX2_roleOf 138 = .ok (.goto 4, 3) := by decide +kernel
theorem dX2_roleOf_141 : decode cX2_roleOf 141 = .ok (.iconst 0, 1) := by decide +kernel
theorem dX2_roleOf_142 : decode cX2_roleOf 142 = .ok (.ireturn, 1) := by decide +kernel
theorem dX2_isConstantAt_0 : decode cX2_isConstantAt 0 = .ok (.aload_n 0, 1) := by decide +kernel
theorem dX2_isConstantAt_1 : decode cX2_isConstantAt 1 = .ok (.iload_n 1, 1) := by decide +kernel
theorem dX2_isConstantAt_2 : decode cX2_isConstantAt 2 = .ok (.invokevirtual 19, 3) := by decide +kernel
theorem dX2_isConstantAt_5 : decode cX2_isConstantAt 5 = .ok (.iconst 1, 1) := by decide +kernel
theorem dX2_isConstantAt_6 : decode cX2_isConstantAt 6 = .ok (.if_icmp .ne 7, 3) := by decide +kernel
theorem dX2_isConstantAt_9 : decode cX2_isConstantAt 9 = .ok (.iconst 1, 1) := by decide +kernel
theorem dX2_isConstantAt_10 : decode cX2_isConstantAt 10 = .ok (.goto 4, 3) := by decide +kernel
theorem dX2_isConstantAt_13 : decode cX2_isConstantAt 13 = .ok (.iconst 0, 1) := by decide +kernel
theorem dX2_isConstantAt_14 : decode cX2_isConstantAt 14 = .ok (.ireturn, 1) := by decide +kernel
theorem dX2_isWrongConstant_0 : decode cX2_isWrongConstant 0 = .ok (.aload_n 0, 1) := by decide +kernel
theorem dX2_isWrongConstant_1 : decode cX2_isWrongConstant 1 = .ok (.iload_n 1, 1) := by decide +kernel
theorem dX2_isWrongConstant_2 : decode cX2_isWrongConstant 2 = .ok (.invokevirtual 23, 3) := by decide +kernel
theorem dX2_isWrongConstant_5 : decode cX2_isWrongConstant 5 = .ok (.ifCond .ne 5, 3) := by decide +kernel
theorem dX2_isWrongConstant_8 : decode cX2_isWrongConstant 8 = .ok (.iconst 0, 1) := by decide +kernel
theorem dX2_isWrongConstant_9 : decode cX2_isWrongConstant 9 = .ok (.ireturn, 1) := by decide +kernel
theorem dX2_isWrongConstant_10 : decode cX2_isWrongConstant 10 = .ok (.aload_n 0, 1) := by decide +kernel
theorem dX2_isWrongConstant_11 : decode cX2_isWrongConstant 11 = .ok (.getfield 15, 3) := by decide +kernel
theorem dX2_isWrongConstant_14 : decode cX2_isWrongConstant 14 = .ok (.iload_n 1, 1) := by decide +kernel
theorem dX2_isWrongConstant_15 : decode cX2_isWrongConstant 15 = .ok (.iaload, 1) := by decide +kernel
theorem dX2_isWrongConstant_16 : decode cX2_isWrongConstant 16 = .ok (.istore_n 2, 1) := by decide +kernel
theorem dX2_isWrongConstant_17 : decode cX2_isWrongConstant 17 = .ok (.aload_n 0, 1) := by decide +kernel
theorem dX2_isWrongConstant_18 : decode cX2_isWrongConstant 18 = .ok (.getfield 9, 3) := by decide +kernel
theorem dX2_isWrongConstant_21 : decode cX2_isWrongConstant 21 = .ok (.bipush 9, 2) := by decide +kernel
theorem dX2_isWrongConstant_23 : decode cX2_isWrongConstant 23 = .ok (.if_icmp .eq 12, 3) := by decide +kernel
theorem dX2_isWrongConstant_26 : decode cX2_isWrongConstant 26 = .ok (.aload_n 0, 1) := by decide +kernel
theorem dX2_isWrongConstant_27 : decode cX2_isWrongConstant 27 = .ok (.getfield 9, 3) := by decide +kernel
theorem dX2_isWrongConstant_30 : decode cX2_isWrongConstant 30 = .ok (.bipush 10, 2) := by decide +kernel
theorem dX2_isWrongConstant_32 : decode cX2_isWrongConstant 32 = .ok (.if_icmp .ne 19, 3) := by decide +kernel
theorem dX2_isWrongConstant_35 : decode cX2_isWrongConstant 35 = .ok (.iload_n 2, 1) := by decide +kernel
theorem dX2_isWrongConstant_36 : decode cX2_isWrongConstant 36 = .ok (.ifCond .lt 9, 3) := by decide +kernel
theorem dX2_isWrongConstant_39 : decode cX2_isWrongConstant 39 = .ok (.iload_n 2, 1) := by decide +kernel
theorem dX2_isWrongConstant_40 : decode cX2_isWrongConstant 40 = .ok (.bipush 15, 2) := by decide +kernel
theorem dX2_isWrongConstant_42 : decode cX2_isWrongConstant 42 = .ok (.if_icmp .le 7, 3) := by decide +kernel
theorem dX2_isWrongConstant_45 : decode cX2_isWrongConstant 45 = .ok (.iconst 1, 1) := by decide +kernel
theorem dX2_isWrongConstant_46 : decode cX2_isWrongConstant 46 = .ok (.goto 4, 3) := by decide +kernel
theorem dX2_isWrongConstant_49 : decode cX2_isWrongConstant 49 = .ok (.iconst 0, 1) := by decide +kernel
theorem dX2_isWrongConstant_50 : decode cX2_isWrongConstant 50 = .ok (.ireturn, 1) := by decide +kernel
theorem dX2_isWrongConstant_51 : decode cX2_isWrongConstant 51 = .ok (.iload_n 1, 1) := by decide +kernel
theorem dX2_isWrongConstant_52 : decode cX2_isWrongConstant 52 = .ok (.iconst 1, 1) := by decide +kernel
theorem dX2_isWrongConstant_53 : decode cX2_isWrongConstant 53 = .ok (.if_icmp .ne 17, 3) := by decide +kernel
theorem dX2_isWrongConstant_56 : decode cX2_isWrongConstant 56 = .ok (.iload_n 2, 1) := by decide +kernel
theorem dX2_isWrongConstant_57 : decode cX2_isWrongConstant 57 = .ok (.aload_n 0, 1) := by decide +kernel
theorem dX2_isWrongConstant_58 : decode cX2_isWrongConstant 58 = .ok (.getfield 15, 3) := by decide +kernel
theorem dX2_isWrongConstant_61 : decode cX2_isWrongConstant 61 = .ok (.iconst 0, 1) := by decide +kernel
theorem dX2_isWrongConstant_62 : decode cX2_isWrongConstant 62 = .ok (.iaload, 1) := by decide +kernel
theorem dX2_isWrongConstant_63 : decode cX2_isWrongConstant 63 = .ok (.if_icmp .ge 7, 3) := by decide +kernel
theorem dX2_isWrongConstant_66 : decode cX2_isWrongConstant 66 = .ok (.iconst 1, 1) := by decide +kernel
theorem dX2_isWrongConstant_67 : decode cX2_isWrongConstant 67 = .ok (.goto 4, 3) := by decide +kernel
theorem dX2_isWrongConstant_70 : decode cX2_isWrongConstant 70 = .ok (.iconst 0, 1) := by decide +kernel
theorem dX2_isWrongConstant_71 : decode cX2_isWrongConstant 71 = .ok (.istore_n 3, 1) := by decide +kernel
theorem dX2_isWrongConstant_72 : decode cX2_isWrongConstant 72 = .ok (.iload_n 3, 1) := by decide +kernel
theorem dX2_isWrongConstant_73 : decode cX2_isWrongConstant 73 = .ok (.ifCond .ne 17, 3) := by decide +kernel
theorem dX2_isWrongConstant_76 : decode cX2_isWrongConstant 76 = .ok (.iload_n 2, 1) := by decide +kernel
theorem dX2_isWrongConstant_77 : decode cX2_isWrongConstant 77 = .ok (.sipush (-4096), 3) := by decide +kernel
theorem dX2_isWrongConstant_80 : decode cX2_isWrongConstant 80 = .ok (.if_icmp .lt 10, 3) := by decide +kernel
theorem dX2_isWrongConstant_83 : decode cX2_isWrongConstant 83 = .ok (.iload_n 2, 1) := by decide +kernel
theorem dX2_isWrongConstant_84 : decode cX2_isWrongConstant 84 = .ok (.sipush 4095, 3) := by decide +kernel
theorem dX2_isWrongConstant_87 : decode cX2_isWrongConstant 87 = .ok (.if_icmp .le 7, 3) := by decide +kernel
theorem dX2_isWrongConstant_90 : decode cX2_isWrongConstant 90 = .ok (.iconst 1, 1) := by decide +kernel
theorem dX2_isWrongConstant_91 : decode cX2_isWrongConstant 91 = .ok (.goto 4, 3) := by decide +kernel
theorem dX2_isWrongConstant_94 : decode cX2_isWrongConstant 94 = .ok (.iconst 0, 1) := by decide +kernel
theorem dX2_isWrongConstant_95 : decode cX2_isWrongConstant 95 = .ok (.ireturn, 1) := by decide +kernel
theorem dX2_isMissingSignal_0 : decode cX2_isMissingSignal 0 = .ok (.aload_n 0, 1) := by decide +kernel
theorem dX2_isMissingSignal_1 : decode cX2_isMissingSignal 1 = .ok (.iload_n 1, 1) := by decide +kernel
theorem dX2_isMissingSignal_2 : decode cX2_isMissingSignal 2 = .ok (.invokevirtual 19, 3) := by decide +kernel
theorem dX2_isMissingSignal_5 : decode cX2_isMissingSignal 5 = .ok (.iconst 2, 1) := by decide +kernel
theorem dX2_isMissingSignal_6 : decode cX2_isMissingSignal 6 = .ok (.if_icmp .ne 26, 3) := by decide +kernel
theorem dX2_isMissingSignal_9 : decode cX2_isMissingSignal 9 = .ok (.aload_n 0, 1) := by decide +kernel
theorem dX2_isMissingSignal_10 : decode cX2_isMissingSignal 10 = .ok (.getfield 15, 3) := by decide +kernel
theorem dX2_isMissingSignal_13 : decode cX2_isMissingSignal 13 = .ok (.iload_n 1, 1) := by decide +kernel
theorem dX2_isMissingSignal_14 : decode cX2_isMissingSignal 14 = .ok (.iaload, 1) := by decide +kernel
theorem dX2_isMissingSignal_15 : decode cX2_isMissingSignal 15 = .ok (.ifCond .lt 13, 3) := by decide +kernel
theorem dX2_isMissingSignal_18 : decode cX2_isMissingSignal 18 = .ok (.aload_n 0, 1) := by decide +kernel
theorem dX2_isMissingSignal_19 : decode cX2_isMissingSignal 19 = .ok (.getfield 15, 3) := by decide +kernel
theorem dX2_isMissingSignal_22 : decode cX2_isMissingSignal 22 = .ok (.iload_n 1, 1) := by decide +kernel
theorem dX2_isMissingSignal_23 : decode cX2_isMissingSignal 23 = .ok (.iaload, 1) := by decide +kernel
theorem dX2_isMissingSignal_24 : decode cX2_isMissingSignal 24 = .ok (.iload_n 2, 1) := by decide +kernel
theorem dX2_isMissingSignal_25 : decode cX2_isMissingSignal 25 = .ok (.if_icmp .lt 7, 3) := by decide +kernel
theorem dX2_isMissingSignal_28 : decode cX2_isMissingSignal 28 = .ok (.iconst 1, 1) := by decide +kernel
theorem dX2_isMissingSignal_29 : decode cX2_isMissingSignal 29 = .ok (.goto 4, 3) := by decide +kernel
theorem dX2_isMissingSignal_32 : decode cX2_isMissingSignal 32 = .ok (.iconst 0, 1) := by decide +kernel
theorem dX2_isMissingSignal_33 : decode cX2_isMissingSignal 33 = .ok (.ireturn, 1) := by decide +kernel
theorem dX2_hasWrongConstant_0 : decode cX2_hasWrongConstant 0 = .ok (.aload_n 0, 1) := by decide +kernel
theorem dX2_hasWrongConstant_1 : decode cX2_hasWrongConstant 1 = .ok (.iconst 0, 1) := by decide +kernel
theorem dX2_hasWrongConstant_2 : decode cX2_hasWrongConstant 2 = .ok (.invokevirtual 27, 3) := by decide +kernel
theorem dX2_hasWrongConstant_5 : decode cX2_hasWrongConstant 5 = .ok (.ifCond .ne 19, 3) := by decide +kernel
theorem dX2_hasWrongConstant_8 : decode cX2_hasWrongConstant 8 = .ok (.aload_n 0, 1) := by decide +kernel
theorem dX2_hasWrongConstant_9 : decode cX2_hasWrongConstant 9 = .ok (.iconst 1, 1) := by decide +kernel
theorem dX2_hasWrongConstant_10 : decode cX2_hasWrongConstant 10 = .ok (.invokevirtual 27, 3) := by decide +kernel
theorem dX2_hasWrongConstant_13 : decode cX2_hasWrongConstant 13 = .ok (.ifCond .ne 11, 3) := by decide +kernel
theorem dX2_hasWrongConstant_16 : decode cX2_hasWrongConstant 16 = .ok (.aload_n 0, 1) := by decide +kernel
theorem dX2_hasWrongConstant_17 : decode cX2_hasWrongConstant 17 = .ok (.iconst 2, 1) := by decide +kernel
theorem dX2_hasWrongConstant_18 : decode cX2_hasWrongConstant 18 = .ok (.invokevirtual 27, 3) := by decide +kernel
theorem dX2_hasWrongConstant_21 : decode cX2_hasWrongConstant 21 = .ok (.ifCond .eq 7, 3) := by decide +kernel
theorem dX2_hasWrongConstant_24 : decode cX2_hasWrongConstant 24 = .ok (.iconst 1, 1) := by decide +kernel
theorem dX2_hasWrongConstant_25 : decode cX2_hasWrongConstant 25 = .ok (.goto 4, 3) := by decide +kernel
theorem dX2_hasWrongConstant_28 : decode cX2_hasWrongConstant 28 = .ok (.iconst 0, 1) := by decide +kernel
theorem dX2_hasWrongConstant_29 : decode cX2_hasWrongConstant 29 = .ok (.ireturn, 1) := by decide +kernel
theorem dX2_lacksSignal_0 : decode cX2_lacksSignal 0 = .ok (.aload_n 0, 1) := by decide +kernel
theorem dX2_lacksSignal_1 : decode cX2_lacksSignal 1 = .ok (.iconst 0, 1) := by decide +kernel
theorem dX2_lacksSignal_2 : decode cX2_lacksSignal 2 = .ok (.iload_n 1, 1) := by decide +kernel
theorem dX2_lacksSignal_3 : decode cX2_lacksSignal 3 = .ok (.invokevirtual 30, 3) := by decide +kernel
theorem dX2_lacksSignal_6 : decode cX2_lacksSignal 6 = .ok (.ifCond .ne 21, 3) := by decide +kernel
theorem dX2_lacksSignal_9 : decode cX2_lacksSignal 9 = .ok (.aload_n 0, 1) := by decide +kernel
theorem dX2_lacksSignal_10 : decode cX2_lacksSignal 10 = .ok (.iconst 1, 1) := by decide +kernel
theorem dX2_lacksSignal_11 : decode cX2_lacksSignal 11 = .ok (.iload_n 1, 1) := by decide +kernel
theorem dX2_lacksSignal_12 : decode cX2_lacksSignal 12 = .ok (.invokevirtual 30, 3) := by decide +kernel
theorem dX2_lacksSignal_15 : decode cX2_lacksSignal 15 = .ok (.ifCond .ne 12, 3) := by decide +kernel
theorem dX2_lacksSignal_18 : decode cX2_lacksSignal 18 = .ok (.aload_n 0, 1) := by decide +kernel
theorem dX2_lacksSignal_19 : decode cX2_lacksSignal 19 = .ok (.iconst 2, 1) := by decide +kernel
theorem dX2_lacksSignal_20 : decode cX2_lacksSignal 20 = .ok (.iload_n 1, 1) := by decide +kernel
theorem dX2_lacksSignal_21 : decode cX2_lacksSignal 21 = .ok (.invokevirtual 30, 3) := by decide +kernel
theorem dX2_lacksSignal_24 : decode cX2_lacksSignal 24 = .ok (.ifCond .eq 7, 3) := by decide +kernel
theorem dX2_lacksSignal_27 : decode cX2_lacksSignal 27 = .ok (.iconst 1, 1) := by decide +kernel
theorem dX2_lacksSignal_28 : decode cX2_lacksSignal 28 = .ok (.goto 4, 3) := by decide +kernel
theorem dX2_lacksSignal_31 : decode cX2_lacksSignal 31 = .ok (.iconst 0, 1) := by decide +kernel
theorem dX2_lacksSignal_32 : decode cX2_lacksSignal 32 = .ok (.ireturn, 1) := by decide +kernel
theorem dX2_firstWrongOperand_0 : decode cX2_firstWrongOperand 0 = .ok (.iconst 0, 1) := by decide +kernel
theorem dX2_firstWrongOperand_1 : decode cX2_firstWrongOperand 1 = .ok (.istore_n 2, 1) := by decide +kernel
theorem dX2_firstWrongOperand_2 : decode cX2_firstWrongOperand 2 = .ok (.iload_n 2, 1) := by decide +kernel
theorem dX2_firstWrongOperand_3 : decode cX2_firstWrongOperand 3 = .ok (.iconst 3, 1) := by decide +kernel
theorem dX2_firstWrongOperand_4 : decode cX2_firstWrongOperand 4 = .ok (.if_icmp .ge 28, 3) := by decide +kernel
theorem dX2_firstWrongOperand_7 : decode cX2_firstWrongOperand 7 = .ok (.aload_n 0, 1) := by decide +kernel
theorem dX2_firstWrongOperand_8 : decode cX2_firstWrongOperand 8 = .ok (.iload_n 2, 1) := by decide +kernel
theorem dX2_firstWrongOperand_9 : decode cX2_firstWrongOperand 9 = .ok (.invokevirtual 27, 3) := by decide +kernel
theorem dX2_firstWrongOperand_12 : decode cX2_firstWrongOperand 12 = .ok (.ifCond .ne 12, 3) := by decide +kernel
theorem dX2_firstWrongOperand_15 : decode cX2_firstWrongOperand 15 = .ok (.aload_n 0, 1) := by decide +kernel
theorem dX2_firstWrongOperand_16 : decode cX2_firstWrongOperand 16 = .ok (.iload_n 2, 1) := by decide +kernel
theorem dX2_firstWrongOperand_17 : decode cX2_firstWrongOperand 17 = .ok (.iload_n 1, 1) := by decide +kernel
theorem dX2_firstWrongOperand_18 : decode cX2_firstWrongOperand 18 = .ok (.invokevirtual 30, 3) := by decide +kernel
theorem dX2_firstWrongOperand_21 : decode cX2_firstWrongOperand 21 = .ok (.ifCond .eq 5, 3) := by decide +kernel
theorem dX2_firstWrongOperand_24 : decode cX2_firstWrongOperand 24 = .ok (.iload_n 2, 1) := by decide +kernel
theorem dX2_firstWrongOperand_25 : decode cX2_firstWrongOperand 25 = .ok (.ireturn, 1) := by decide +kernel
theorem dX2_firstWrongOperand_26 : decode cX2_firstWrongOperand 26 = .ok (.iinc 2 1, 3) := by decide +kernel
theorem dX2_firstWrongOperand_29 : decode cX2_firstWrongOperand 29 = .ok (.goto (-27), 3) := by decide +kernel
theorem dX2_firstWrongOperand_32 : decode cX2_firstWrongOperand 32 = .ok (.iconst (-1), 1) := by decide +kernel
theorem dX2_firstWrongOperand_33 : decode cX2_firstWrongOperand 33 = .ok (.ireturn, 1) := by decide +kernel
theorem dX3_init_0 : decode cX3_init 0 = .ok (.aload_n 0, 1) := by decide +kernel
theorem dX3_init_1 : decode cX3_init 1 = .ok (.invokespecial 3, 3) := by decide +kernel
theorem dX3_init_4 : decode cX3_init 4 = .ok (.aload_n 0, 1) := by decide +kernel
theorem dX3_init_5 : decode cX3_init 5 = .ok (.bipush 24, 2) := by decide +kernel
theorem dX3_init_7 : decode cX3_init 7 = .ok (.newarray .int, 2) := by decide +kernel
theorem dX3_init_9 : decode cX3_init 9 = .ok (.putfield 9, 3) := by decide +kernel
theorem dX3_init_12 : decode cX3_init 12 = .ok (.return_, 1) := by decide +kernel
theorem dX3_settle_0 : decode cX3_settle 0 = .ok (.iconst 0, 1) := by decide +kernel
theorem dX3_settle_1 : decode cX3_settle 1 = .ok (.istore_n 3, 1) := by decide +kernel
theorem dX3_settle_2 : decode cX3_settle 2 = .ok (.iload_n 3, 1) := by decide +kernel
theorem dX3_settle_3 : decode cX3_settle 3 = .ok (.aload_n 1, 1) := by decide +kernel
theorem dX3_settle_4 : decode cX3_settle 4 = .ok (.getfield 15, 3) := by decide +kernel
theorem dX3_settle_7 : decode cX3_settle 7 = .ok (.if_icmp .ge 22, 3) := by decide +kernel
theorem dX3_settle_10 : decode cX3_settle 10 = .ok (.aload_n 0, 1) := by decide +kernel
theorem dX3_settle_11 : decode cX3_settle 11 = .ok (.getfield 9, 3) := by decide +kernel
theorem dX3_settle_14 : decode cX3_settle 14 = .ok (.iload_n 3, 1) := by decide +kernel
theorem dX3_settle_15 : decode cX3_settle 15 = .ok (.aload_n 0, 1) := by decide +kernel
theorem dX3_settle_16 : decode cX3_settle 16 = .ok (.aload_n 1, 1) := by decide +kernel
theorem dX3_settle_17 : decode cX3_settle 17 = .ok (.aload_n 2, 1) := by decide +kernel
theorem dX3_settle_18 : decode cX3_settle 18 = .ok (.iload_n 3, 1) := by decide +kernel
theorem dX3_settle_19 : decode cX3_settle 19 = .ok (.invokevirtual 21, 3) := by decide +kernel
theorem dX3_settle_22 : decode cX3_settle 22 = .ok (.iastore, 1) := by decide +kernel
theorem dX3_settle_23 : decode cX3_settle 23 = .ok (.iinc 3 1, 3) := by decide +kernel
theorem dX3_settle_26 : decode cX3_settle 26 = .ok (.goto (-24), 3) := by decide +kernel
theorem dX3_settle_29 : decode cX3_settle 29 = .ok (.return_, 1) := by decide +kernel
theorem dX3_settleNarrowed_0 : decode cX3_settleNarrowed 0 = .ok (.iconst 0, 1) := by decide +kernel
theorem dX3_settleNarrowed_1 : decode cX3_settleNarrowed 1 = .ok (.istore 4, 2) := by decide +kernel
theorem dX3_settleNarrowed_3 : decode cX3_settleNarrowed 3 = .ok (.iload 4, 2) := by decide +kernel
theorem dX3_settleNarrowed_5 : decode cX3_settleNarrowed 5 = .ok (.aload_n 1, 1) := by decide +kernel
theorem dX3_settleNarrowed_6 : decode cX3_settleNarrowed 6 = .ok (.getfield 15, 3) := by decide +kernel
theorem dX3_settleNarrowed_9 : decode cX3_settleNarrowed 9 = .ok (.if_icmp .ge 30, 3) := by decide +kernel
theorem dX3_settleNarrowed_12 : decode cX3_settleNarrowed 12 = .ok (.aload_n 0, 1) := by decide +kernel
theorem dX3_settleNarrowed_13 : decode cX3_settleNarrowed 13 = .ok (.getfield 9, 3) := by decide +kernel
theorem dX3_settleNarrowed_16 : decode cX3_settleNarrowed 16 = .ok (.iload 4, 2) := by decide +kernel
theorem dX3_settleNarrowed_18 : decode cX3_settleNarrowed 18 = .ok (.aload_n 3, 1) := by decide +kernel
theorem dX3_settleNarrowed_19 : decode cX3_settleNarrowed 19 = .ok (.iload 4, 2) := by decide +kernel
theorem dX3_settleNarrowed_21 : decode cX3_settleNarrowed 21 = .ok (.aload_n 0, 1) := by decide +kernel
theorem dX3_settleNarrowed_22 : decode cX3_settleNarrowed 22 = .ok (.aload_n 1, 1) := by decide +kernel
theorem dX3_settleNarrowed_23 : decode cX3_settleNarrowed 23 = .ok (.aload_n 2, 1) := by decide +kernel
theorem dX3_settleNarrowed_24 : decode cX3_settleNarrowed 24 = .ok (.iload 4, 2) := by decide +kernel
theorem dX3_settleNarrowed_26 : decode cX3_settleNarrowed 26 = .ok (.invokevirtual 21, 3) := by decide +kernel
theorem dX3_settleNarrowed_29 : decode cX3_settleNarrowed 29 = .ok (.invokevirtual 25, 3) := by decide +kernel
theorem dX3_settleNarrowed_32 : decode cX3_settleNarrowed 32 = .ok (.iastore, 1) := by decide +kernel
theorem dX3_settleNarrowed_33 : decode cX3_settleNarrowed 33 = .ok (.iinc 4 1, 3) := by decide +kernel
theorem dX3_settleNarrowed_36 : decode cX3_settleNarrowed 36 = .ok (.goto (-33), 3) := by decide +kernel
theorem dX3_settleNarrowed_39 : decode cX3_settleNarrowed 39 = .ok (.return_, 1) := by decide +kernel
theorem dX3_determine_0 : decode cX3_determine 0 = .ok (.aload_n 1, 1) := by decide +kernel
theorem dX3_determine_1 : decode cX3_determine 1 = .ok (.getfield 31, 3) := by decide +kernel
theorem dX3_determine_4 : decode cX3_determine 4 = .ok (.iload_n 3, 1) := by decide +kernel
theorem dX3_determine_5 : decode cX3_determine 5 = .ok (.iaload, 1) := by decide +kernel
theorem dX3_determine_6 : decode cX3_determine 6 = .ok (.istore 4, 2) := by decide +kernel
theorem dX3_determine_8 : decode cX3_determine 8 = .ok (.aload_n 1, 1) := by decide +kernel
theorem dX3_determine_9 : decode cX3_determine 9 = .ok (.getfield 34, 3) := by decide +kernel
theorem dX3_determine_12 : decode cX3_determine 12 = .ok (.iload_n 3, 1) := by decide +kernel
theorem dX3_determine_13 : decode cX3_determine 13 = .ok (.iaload, 1) := by decide +kernel
theorem dX3_determine_14 : decode cX3_determine 14 = .ok (.istore 5, 2) := by decide +kernel
theorem dX3_determine_16 : decode cX3_determine 16 = .ok (.aload_n 1, 1) := by decide +kernel
theorem dX3_determine_17 : decode cX3_determine 17 = .ok (.getfield 37, 3) := by decide +kernel
theorem dX3_determine_20 : decode cX3_determine 20 = .ok (.iload_n 3, 1) := by decide +kernel
theorem dX3_determine_21 : decode cX3_determine 21 = .ok (.iaload, 1) := by decide +kernel
theorem dX3_determine_22 : decode cX3_determine 22 = .ok (.tableswitch 217 0 11 #[62, 69, 72, 76, 92, 108, 124, 140, 156, 172, 183, 194], 62) := by decide +kernel
theorem dX3_determine_84 : decode cX3_determine 84 = .ok (.aload_n 1, 1) := by decide +kernel
theorem dX3_determine_85 : decode cX3_determine 85 = .ok (.getfield 40, 3) := by decide +kernel
theorem dX3_determine_88 : decode cX3_determine 88 = .ok (.iload_n 3, 1) := by decide +kernel
theorem dX3_determine_89 : decode cX3_determine 89 = .ok (.iaload, 1) := by decide +kernel
theorem dX3_determine_90 : decode cX3_determine 90 = .ok (.ireturn, 1) := by decide +kernel
theorem dX3_determine_91 : decode cX3_determine 91 = .ok (.iload 4, 2) := by decide +kernel
theorem dX3_determine_93 : decode cX3_determine 93 = .ok (.ireturn, 1) := by decide +kernel
theorem dX3_determine_94 : decode cX3_determine 94 = .ok (.aload_n 2, 1) := by decide +kernel
theorem dX3_determine_95 : decode cX3_determine 95 = .ok (.iload_n 3, 1) := by decide +kernel
theorem dX3_determine_96 : decode cX3_determine 96 = .ok (.iaload, 1) := by decide +kernel
theorem dX3_determine_97 : decode cX3_determine 97 = .ok (.ireturn, 1) := by decide +kernel
theorem dX3_determine_98 : decode cX3_determine 98 = .ok (.aload_n 0, 1) := by decide +kernel
theorem dX3_determine_99 : decode cX3_determine 99 = .ok (.getfield 9, 3) := by decide +kernel
theorem dX3_determine_102 : decode cX3_determine 102 = .ok (.iload 4, 2) := by decide +kernel
theorem dX3_determine_104 : decode cX3_determine 104 = .ok (.iaload, 1) := by decide +kernel
theorem dX3_determine_105 : decode cX3_determine 105 = .ok (.aload_n 0, 1) := by decide +kernel
theorem dX3_determine_106 : decode cX3_determine 106 = .ok (.getfield 9, 3) := by decide +kernel
theorem dX3_determine_109 : decode cX3_determine 109 = .ok (.iload 5, 2) := by decide +kernel
theorem dX3_determine_111 : decode cX3_determine 111 = .ok (.iaload, 1) := by decide +kernel
theorem dX3_determine_112 : decode cX3_determine 112 = .ok (.iadd, 1) := by decide +kernel
theorem dX3_determine_113 : decode cX3_determine 113 = .ok (.ireturn, 1) := by decide +kernel
theorem dX3_determine_114 : decode cX3_determine 114 = .ok (.aload_n 0, 1) := by decide +kernel
theorem dX3_determine_115 : decode cX3_determine 115 = .ok (.getfield 9, 3) := by decide +kernel
theorem dX3_determine_118 : decode cX3_determine 118 = .ok (.iload 4, 2) := by decide +kernel
theorem dX3_determine_120 : decode cX3_determine 120 = .ok (.iaload, 1) := by decide +kernel
theorem dX3_determine_121 : decode cX3_determine 121 = .ok (.aload_n 0, 1) := by decide +kernel
theorem dX3_determine_122 : decode cX3_determine 122 = .ok (.getfield 9, 3) := by decide +kernel
theorem dX3_determine_125 : decode cX3_determine 125 = .ok (.iload 5, 2) := by decide +kernel
theorem dX3_determine_127 : decode cX3_determine 127 = .ok (.iaload, 1) := by decide +kernel
theorem dX3_determine_128 : decode cX3_determine 128 = .ok (.isub, 1) := by decide +kernel
theorem dX3_determine_129 : decode cX3_determine 129 = .ok (.ireturn, 1) := by decide +kernel
theorem dX3_determine_130 : decode cX3_determine 130 = .ok (.aload_n 0, 1) := by decide +kernel
theorem dX3_determine_131 : decode cX3_determine 131 = .ok (.getfield 9, 3) := by decide +kernel
theorem dX3_determine_134 : decode cX3_determine 134 = .ok (.iload 4, 2) := by decide +kernel
theorem dX3_determine_136 : decode cX3_determine 136 = .ok (.iaload, 1) := by decide +kernel
theorem dX3_determine_137 : decode cX3_determine 137 = .ok (.aload_n 0, 1) := by decide +kernel
theorem dX3_determine_138 : decode cX3_determine 138 = .ok (.getfield 9, 3) := by decide +kernel
theorem dX3_determine_141 : decode cX3_determine 141 = .ok (.iload 5, 2) := by decide +kernel
theorem dX3_determine_143 : decode cX3_determine 143 = .ok (.iaload, 1) := by decide +kernel
theorem dX3_determine_144 : decode cX3_determine 144 = .ok (.imul, 1) := by decide +kernel
theorem dX3_determine_145 : decode cX3_determine 145 = .ok (.ireturn, 1) := by decide +kernel
theorem dX3_determine_146 : decode cX3_determine 146 = .ok (.aload_n 0, 1) := by decide +kernel
theorem dX3_determine_147 : decode cX3_determine 147 = .ok (.getfield 9, 3) := by decide +kernel
theorem dX3_determine_150 : decode cX3_determine 150 = .ok (.iload 4, 2) := by decide +kernel
theorem dX3_determine_152 : decode cX3_determine 152 = .ok (.iaload, 1) := by decide +kernel
theorem dX3_determine_153 : decode cX3_determine 153 = .ok (.aload_n 0, 1) := by decide +kernel
theorem dX3_determine_154 : decode cX3_determine 154 = .ok (.getfield 9, 3) := by decide +kernel
theorem dX3_determine_157 : decode cX3_determine 157 = .ok (.iload 5, 2) := by decide +kernel
theorem dX3_determine_159 : decode cX3_determine 159 = .ok (.iaload, 1) := by decide +kernel
theorem dX3_determine_160 : decode cX3_determine 160 = .ok (.iand, 1) := by decide +kernel
theorem dX3_determine_161 : decode cX3_determine 161 = .ok (.ireturn, 1) := by decide +kernel
theorem dX3_determine_162 : decode cX3_determine 162 = .ok (.aload_n 0, 1) := by decide +kernel
theorem dX3_determine_163 : decode cX3_determine 163 = .ok (.getfield 9, 3) := by decide +kernel
theorem dX3_determine_166 : decode cX3_determine 166 = .ok (.iload 4, 2) := by decide +kernel
theorem dX3_determine_168 : decode cX3_determine 168 = .ok (.iaload, 1) := by decide +kernel
theorem dX3_determine_169 : decode cX3_determine 169 = .ok (.aload_n 0, 1) := by decide +kernel
theorem dX3_determine_170 : decode cX3_determine 170 = .ok (.getfield 9, 3) := by decide +kernel
theorem dX3_determine_173 : decode cX3_determine 173 = .ok (.iload 5, 2) := by decide +kernel
theorem dX3_determine_175 : decode cX3_determine 175 = .ok (.iaload, 1) := by decide +kernel
theorem dX3_determine_176 : decode cX3_determine 176 = .ok (.ior, 1) := by decide +kernel
theorem dX3_determine_177 : decode cX3_determine 177 = .ok (.ireturn, 1) := by decide +kernel
theorem dX3_determine_178 : decode cX3_determine 178 = .ok (.aload_n 0, 1) := by decide +kernel
theorem dX3_determine_179 : decode cX3_determine 179 = .ok (.getfield 9, 3) := by decide +kernel
theorem dX3_determine_182 : decode cX3_determine 182 = .ok (.iload 4, 2) := by decide +kernel
theorem dX3_determine_184 : decode cX3_determine 184 = .ok (.iaload, 1) := by decide +kernel
theorem dX3_determine_185 : decode cX3_determine 185 = .ok (.aload_n 0, 1) := by decide +kernel
theorem dX3_determine_186 : decode cX3_determine 186 = .ok (.getfield 9, 3) := by decide +kernel
theorem dX3_determine_189 : decode cX3_determine 189 = .ok (.iload 5, 2) := by decide +kernel
theorem dX3_determine_191 : decode cX3_determine 191 = .ok (.iaload, 1) := by decide +kernel
theorem dX3_determine_192 : decode cX3_determine 192 = .ok (.ixor, 1) := by decide +kernel
theorem dX3_determine_193 : decode cX3_determine 193 = .ok (.ireturn, 1) := by decide +kernel
theorem dX3_determine_194 : decode cX3_determine 194 = .ok (.aload_n 0, 1) := by decide +kernel
theorem dX3_determine_195 : decode cX3_determine 195 = .ok (.getfield 9, 3) := by decide +kernel
theorem dX3_determine_198 : decode cX3_determine 198 = .ok (.iload 4, 2) := by decide +kernel
theorem dX3_determine_200 : decode cX3_determine 200 = .ok (.iaload, 1) := by decide +kernel
theorem dX3_determine_201 : decode cX3_determine 201 = .ok (.iload 5, 2) := by decide +kernel
theorem dX3_determine_203 : decode cX3_determine 203 = .ok (.ishl, 1) := by decide +kernel
theorem dX3_determine_204 : decode cX3_determine 204 = .ok (.ireturn, 1) := by decide +kernel
theorem dX3_determine_205 : decode cX3_determine 205 = .ok (.aload_n 0, 1) := by decide +kernel
theorem dX3_determine_206 : decode cX3_determine 206 = .ok (.getfield 9, 3) := by decide +kernel
theorem dX3_determine_209 : decode cX3_determine 209 = .ok (.iload 4, 2) := by decide +kernel
theorem dX3_determine_211 : decode cX3_determine 211 = .ok (.iaload, 1) := by decide +kernel
theorem dX3_determine_212 : decode cX3_determine 212 = .ok (.iload 5, 2) := by decide +kernel
theorem dX3_determine_214 : decode cX3_determine 214 = .ok (.ishr, 1) := by decide +kernel
theorem dX3_determine_215 : decode cX3_determine 215 = .ok (.ireturn, 1) := by decide +kernel
theorem dX3_determine_216 : decode cX3_determine 216 = .ok (.aload_n 0, 1) := by decide +kernel
theorem dX3_determine_217 : decode cX3_determine 217 = .ok (.getfield 9, 3) := by decide +kernel
theorem dX3_determine_220 : decode cX3_determine 220 = .ok (.iload 4, 2) := by decide +kernel
theorem dX3_determine_222 : decode cX3_determine 222 = .ok (.iaload, 1) := by decide +kernel
theorem dX3_determine_223 : decode cX3_determine 223 = .ok (.aload_n 0, 1) := by decide +kernel
theorem dX3_determine_224 : decode cX3_determine 224 = .ok (.getfield 9, 3) := by decide +kernel
theorem dX3_determine_227 : decode cX3_determine 227 = .ok (.iload 5, 2) := by decide +kernel
theorem dX3_determine_229 : decode cX3_determine 229 = .ok (.iaload, 1) := by decide +kernel
theorem dX3_determine_230 : decode cX3_determine 230 = .ok (.if_icmp .ge 7, 3) := by decide +kernel
theorem dX3_determine_233 : decode cX3_determine 233 = .ok (.iconst 1, 1) := by decide +kernel
theorem dX3_determine_234 : decode cX3_determine 234 = .ok (.goto 4, 3) := by decide +kernel
theorem dX3_determine_237 : decode cX3_determine 237 = .ok (.iconst 0, 1) := by decide +kernel
theorem dX3_determine_238 : decode cX3_determine 238 = .ok (.ireturn, 1) := by decide +kernel
theorem dX3_determine_239 : decode cX3_determine 239 = .ok (.aload_n 0, 1) := by decide +kernel
theorem dX3_determine_240 : decode cX3_determine 240 = .ok (.getfield 9, 3) := by decide +kernel
theorem dX3_determine_243 : decode cX3_determine 243 = .ok (.iload 4, 2) := by decide +kernel
theorem dX3_determine_245 : decode cX3_determine 245 = .ok (.iaload, 1) := by decide +kernel
theorem dX3_determine_246 : decode cX3_determine 246 = .ok (.ifCond .eq 13, 3) := by decide +kernel
theorem dX3_determine_249 : decode cX3_determine 249 = .ok (.aload_n 0, 1) := by decide +kernel
theorem dX3_determine_250 : decode cX3_determine 250 = .ok (.getfield 9, 3) := by decide +kernel
theorem dX3_determine_253 : decode cX3_determine 253 = .ok (.iload 5, 2) := by decide +kernel
theorem dX3_determine_255 : decode cX3_determine 255 = .ok (.iaload, 1) := by decide +kernel
theorem dX3_determine_256 : decode cX3_determine 256 = .ok (.goto 14, 3) := by decide +kernel
theorem dX3_determine_259 : decode cX3_determine 259 = .ok (.aload_n 0, 1) := by decide +kernel
theorem dX3_determine_260 : decode cX3_determine 260 = .ok (.getfield 9, 3) := by decide +kernel
theorem dX3_determine_263 : decode cX3_determine 263 = .ok (.aload_n 1, 1) := by decide +kernel
theorem dX3_determine_264 : decode cX3_determine 264 = .ok (.getfield 43, 3) := by decide +kernel
theorem dX3_determine_267 : decode cX3_determine 267 = .ok (.iload_n 3, 1) := by decide +kernel
theorem dX3_determine_268 : decode cX3_determine 268 = .ok (.iaload, 1) := by decide +kernel
theorem dX3_determine_269 : decode cX3_determine 269 = .ok (.iaload, 1) := by decide +kernel
theorem dX3_determine_270 : decode cX3_determine 270 = .ok (.ireturn, 1) := by decide +kernel
theorem dX4_init_0 : decode cX4_init 0 = .ok (.aload_n 0, 1) := by decide +kernel
theorem dX4_init_1 : decode cX4_init 1 = .ok (.invokespecial 3, 3) := by decide +kernel
theorem dX4_init_4 : decode cX4_init 4 = .ok (.aload_n 0, 1) := by decide +kernel
theorem dX4_init_5 : decode cX4_init 5 = .ok (.bipush 24, 2) := by decide +kernel
theorem dX4_init_7 : decode cX4_init 7 = .ok (.newarray .int, 2) := by decide +kernel
theorem dX4_init_9 : decode cX4_init 9 = .ok (.putfield 9, 3) := by decide +kernel
theorem dX4_init_12 : decode cX4_init 12 = .ok (.aload_n 0, 1) := by decide +kernel
theorem dX4_init_13 : decode cX4_init 13 = .ok (.bipush 24, 2) := by decide +kernel
theorem dX4_init_15 : decode cX4_init 15 = .ok (.newarray .int, 2) := by decide +kernel
theorem dX4_init_17 : decode cX4_init 17 = .ok (.putfield 15, 3) := by decide +kernel
theorem dX4_init_20 : decode cX4_init 20 = .ok (.aload_n 0, 1) := by decide +kernel
theorem dX4_init_21 : decode cX4_init 21 = .ok (.bipush 24, 2) := by decide +kernel
theorem dX4_init_23 : decode cX4_init 23 = .ok (.newarray .int, 2) := by decide +kernel
theorem dX4_init_25 : decode cX4_init 25 = .ok (.putfield 18, 3) := by decide +kernel
theorem dX4_init_28 : decode cX4_init 28 = .ok (.aload_n 0, 1) := by decide +kernel
theorem dX4_init_29 : decode cX4_init 29 = .ok (.iconst 0, 1) := by decide +kernel
theorem dX4_init_30 : decode cX4_init 30 = .ok (.putfield 21, 3) := by decide +kernel
theorem dX4_init_33 : decode cX4_init 33 = .ok (.return_, 1) := by decide +kernel
theorem dX4_find_0 : decode cX4_find 0 = .ok (.iconst 0, 1) := by decide +kernel
theorem dX4_find_1 : decode cX4_find 1 = .ok (.istore_n 2, 1) := by decide +kernel
theorem dX4_find_2 : decode cX4_find 2 = .ok (.iload_n 2, 1) := by decide +kernel
theorem dX4_find_3 : decode cX4_find 3 = .ok (.aload_n 1, 1) := by decide +kernel
theorem dX4_find_4 : decode cX4_find 4 = .ok (.getfield 25, 3) := by decide +kernel
theorem dX4_find_7 : decode cX4_find 7 = .ok (.if_icmp .ge 51, 3) := by decide +kernel
theorem dX4_find_10 : decode cX4_find 10 = .ok (.aload_n 0, 1) := by decide +kernel
theorem dX4_find_11 : decode cX4_find 11 = .ok (.getfield 9, 3) := by decide +kernel
theorem dX4_find_14 : decode cX4_find 14 = .ok (.iload_n 2, 1) := by decide +kernel
theorem dX4_find_15 : decode cX4_find 15 = .ok (.aload_n 1, 1) := by decide +kernel
theorem dX4_find_16 : decode cX4_find 16 = .ok (.getfield 30, 3) := by decide +kernel
theorem dX4_find_19 : decode cX4_find 19 = .ok (.iload_n 2, 1) := by decide +kernel
theorem dX4_find_20 : decode cX4_find 20 = .ok (.iaload, 1) := by decide +kernel
theorem dX4_find_21 : decode cX4_find 21 = .ok (.iastore, 1) := by decide +kernel
theorem dX4_find_22 : decode cX4_find 22 = .ok (.aload_n 0, 1) := by decide +kernel
theorem dX4_find_23 : decode cX4_find 23 = .ok (.getfield 15, 3) := by decide +kernel
theorem dX4_find_26 : decode cX4_find 26 = .ok (.iload_n 2, 1) := by decide +kernel
theorem dX4_find_27 : decode cX4_find 27 = .ok (.aload_n 1, 1) := by decide +kernel
theorem dX4_find_28 : decode cX4_find 28 = .ok (.getfield 33, 3) := by decide +kernel
theorem dX4_find_31 : decode cX4_find 31 = .ok (.iload_n 2, 1) := by decide +kernel
theorem dX4_find_32 : decode cX4_find 32 = .ok (.iaload, 1) := by decide +kernel
theorem dX4_find_33 : decode cX4_find 33 = .ok (.ifCond .ne 12, 3) := by decide +kernel
theorem dX4_find_36 : decode cX4_find 36 = .ok (.aload_n 1, 1) := by decide +kernel
theorem dX4_find_37 : decode cX4_find 37 = .ok (.getfield 36, 3) := by decide +kernel
theorem dX4_find_40 : decode cX4_find 40 = .ok (.iload_n 2, 1) := by decide +kernel
theorem dX4_find_41 : decode cX4_find 41 = .ok (.iaload, 1) := by decide +kernel
theorem dX4_find_42 : decode cX4_find 42 = .ok (.goto 9, 3) := by decide +kernel
theorem dX4_find_45 : decode cX4_find 45 = .ok (.aload_n 1, 1) := by decide +kernel
theorem dX4_find_46 : decode cX4_find 46 = .ok (.getfield 30, 3) := by decide +kernel
theorem dX4_find_49 : decode cX4_find 49 = .ok (.iload_n 2, 1) := by decide +kernel
theorem dX4_find_50 : decode cX4_find 50 = .ok (.iaload, 1) := by decide +kernel
theorem dX4_find_51 : decode cX4_find 51 = .ok (.iastore, 1) := by decide +kernel
theorem dX4_find_52 : decode cX4_find 52 = .ok (.iinc 2 1, 3) := by decide +kernel
theorem dX4_find_55 : decode cX4_find 55 = .ok (.goto (-53), 3) := by decide +kernel
theorem dX4_find_58 : decode cX4_find 58 = .ok (.aload_n 0, 1) := by decide +kernel
theorem dX4_find_59 : decode cX4_find 59 = .ok (.iconst 0, 1) := by decide +kernel
theorem dX4_find_60 : decode cX4_find 60 = .ok (.putfield 21, 3) := by decide +kernel
theorem dX4_find_63 : decode cX4_find 63 = .ok (.iconst 1, 1) := by decide +kernel
theorem dX4_find_64 : decode cX4_find 64 = .ok (.istore_n 2, 1) := by decide +kernel
theorem dX4_find_65 : decode cX4_find 65 = .ok (.iload_n 2, 1) := by decide +kernel
theorem dX4_find_66 : decode cX4_find 66 = .ok (.ifCond .eq 91, 3) := by decide +kernel
theorem dX4_find_69 : decode cX4_find 69 = .ok (.aload_n 0, 1) := by decide +kernel
theorem dX4_find_70 : decode cX4_find 70 = .ok (.getfield 21, 3) := by decide +kernel
theorem dX4_find_73 : decode cX4_find 73 = .ok (.ldc 39, 2) := by decide +kernel
theorem dX4_find_75 : decode cX4_find 75 = .ok (.if_icmp .ge 82, 3) := by decide +kernel
theorem dX4_find_78 : decode cX4_find 78 = .ok (.aload_n 0, 1) := by decide +kernel
theorem dX4_find_79 : decode cX4_find 79 = .ok (.dup, 1) := by decide +kernel
theorem dX4_find_80 : decode cX4_find 80 = .ok (.getfield 21, 3) := by decide +kernel
theorem dX4_find_83 : decode cX4_find 83 = .ok (.iconst 1, 1) := by decide +kernel
theorem dX4_find_84 : decode cX4_find 84 = .ok (.iadd, 1) := by decide +kernel
theorem dX4_find_85 : decode cX4_find 85 = .ok (.putfield 21, 3) := by decide +kernel
theorem dX4_find_88 : decode cX4_find 88 = .ok (.iconst 0, 1) := by decide +kernel
theorem dX4_find_89 : decode cX4_find 89 = .ok (.istore_n 3, 1) := by decide +kernel
theorem dX4_find_90 : decode cX4_find 90 = .ok (.iload_n 3, 1) := by decide +kernel
theorem dX4_find_91 : decode cX4_find 91 = .ok (.aload_n 1, 1) := by decide +kernel
theorem dX4_find_92 : decode cX4_find 92 = .ok (.getfield 25, 3) := by decide +kernel
theorem dX4_find_95 : decode cX4_find 95 = .ok (.if_icmp .ge 15, 3) := by decide +kernel
theorem dX4_find_98 : decode cX4_find 98 = .ok (.aload_n 0, 1) := by decide +kernel
theorem dX4_find_99 : decode cX4_find 99 = .ok (.aload_n 1, 1) := by decide +kernel
theorem dX4_find_100 : decode cX4_find 100 = .ok (.iload_n 3, 1) := by decide +kernel
theorem dX4_find_101 : decode cX4_find 101 = .ok (.invokevirtual 40, 3) := by decide +kernel
theorem dX4_find_104 : decode cX4_find 104 = .ok (.iinc 3 1, 3) := by decide +kernel
theorem dX4_find_107 : decode cX4_find 107 = .ok (.goto (-17), 3) := by decide +kernel
theorem dX4_find_110 : decode cX4_find 110 = .ok (.iconst 0, 1) := by decide +kernel
theorem dX4_find_111 : decode cX4_find 111 = .ok (.istore_n 2, 1) := by decide +kernel
theorem dX4_find_112 : decode cX4_find 112 = .ok (.iconst 0, 1) := by decide +kernel
theorem dX4_find_113 : decode cX4_find 113 = .ok (.istore_n 3, 1) := by decide +kernel
theorem dX4_find_114 : decode cX4_find 114 = .ok (.iload_n 3, 1) := by decide +kernel
theorem dX4_find_115 : decode cX4_find 115 = .ok (.aload_n 1, 1) := by decide +kernel
theorem dX4_find_116 : decode cX4_find 116 = .ok (.getfield 25, 3) := by decide +kernel
theorem dX4_find_119 : decode cX4_find 119 = .ok (.if_icmp .ge 35, 3) := by decide +kernel
theorem dX4_find_122 : decode cX4_find 122 = .ok (.aload_n 1, 1) := by decide +kernel
theorem dX4_find_123 : decode cX4_find 123 = .ok (.getfield 33, 3) := by decide +kernel
theorem dX4_find_126 : decode cX4_find 126 = .ok (.iload_n 3, 1) := by decide +kernel
theorem dX4_find_127 : decode cX4_find 127 = .ok (.iaload, 1) := by decide +kernel
theorem dX4_find_128 : decode cX4_find 128 = .ok (.iconst 2, 1) := by decide +kernel
theorem dX4_find_129 : decode cX4_find 129 = .ok (.if_icmp .ne 19, 3) := by decide +kernel
theorem dX4_find_132 : decode cX4_find 132 = .ok (.aload_n 0, 1) := by decide +kernel
theorem dX4_find_133 : decode cX4_find 133 = .ok (.iload_n 3, 1) := by decide +kernel
theorem dX4_find_134 : decode cX4_find 134 = .ok (.aload_n 1, 1) := by decide +kernel
theorem dX4_find_135 : decode cX4_find 135 = .ok (.getfield 44, 3) := by decide +kernel
theorem dX4_find_138 : decode cX4_find 138 = .ok (.iload_n 3, 1) := by decide +kernel
theorem dX4_find_139 : decode cX4_find 139 = .ok (.iaload, 1) := by decide +kernel
theorem dX4_find_140 : decode cX4_find 140 = .ok (.invokevirtual 47, 3) := by decide +kernel
theorem dX4_find_143 : decode cX4_find 143 = .ok (.ifCond .eq 5, 3) := by decide +kernel
theorem dX4_find_146 : decode cX4_find 146 = .ok (.iconst 1, 1) := by decide +kernel
theorem dX4_find_147 : decode cX4_find 147 = .ok (.istore_n 2, 1) := by decide +kernel
theorem dX4_find_148 : decode cX4_find 148 = .ok (.iinc 3 1, 3) := by decide +kernel
theorem dX4_find_151 : decode cX4_find 151 = .ok (.goto (-37), 3) := by decide +kernel
theorem dX4_find_154 : decode cX4_find 154 = .ok (.goto (-89), 3) := by decide +kernel
theorem dX4_find_157 : decode cX4_find 157 = .ok (.iconst 0, 1) := by decide +kernel
theorem dX4_find_158 : decode cX4_find 158 = .ok (.istore_n 3, 1) := by decide +kernel
theorem dX4_find_159 : decode cX4_find 159 = .ok (.iload_n 3, 1) := by decide +kernel
theorem dX4_find_160 : decode cX4_find 160 = .ok (.aload_n 1, 1) := by decide +kernel
theorem dX4_find_161 : decode cX4_find 161 = .ok (.getfield 25, 3) := by decide +kernel
theorem dX4_find_164 : decode cX4_find 164 = .ok (.if_icmp .ge 20, 3) := by decide +kernel
theorem dX4_find_167 : decode cX4_find 167 = .ok (.aload_n 0, 1) := by decide +kernel
theorem dX4_find_168 : decode cX4_find 168 = .ok (.getfield 18, 3) := by decide +kernel
theorem dX4_find_171 : decode cX4_find 171 = .ok (.iload_n 3, 1) := by decide +kernel
theorem dX4_find_172 : decode cX4_find 172 = .ok (.aload_n 0, 1) := by decide +kernel
theorem dX4_find_173 : decode cX4_find 173 = .ok (.iload_n 3, 1) := by decide +kernel
theorem dX4_find_174 : decode cX4_find 174 = .ok (.invokevirtual 51, 3) := by decide +kernel
theorem dX4_find_177 : decode cX4_find 177 = .ok (.iastore, 1) := by decide +kernel
theorem dX4_find_178 : decode cX4_find 178 = .ok (.iinc 3 1, 3) := by decide +kernel
theorem dX4_find_181 : decode cX4_find 181 = .ok (.goto (-22), 3) := by decide +kernel
theorem dX4_find_184 : decode cX4_find 184 = .ok (.return_, 1) := by decide +kernel
theorem dX4_widthOf_0 : decode cX4_widthOf 0 = .ok (.aload_n 0, 1) := by decide +kernel
theorem dX4_widthOf_1 : decode cX4_widthOf 1 = .ok (.iload_n 1, 1) := by decide +kernel
theorem dX4_widthOf_2 : decode cX4_widthOf 2 = .ok (.invokevirtual 55, 3) := by decide +kernel
theorem dX4_widthOf_5 : decode cX4_widthOf 5 = .ok (.ifCond .eq 26, 3) := by decide +kernel
theorem dX4_widthOf_8 : decode cX4_widthOf 8 = .ok (.aload_n 0, 1) := by decide +kernel
theorem dX4_widthOf_9 : decode cX4_widthOf 9 = .ok (.getfield 9, 3) := by decide +kernel
theorem dX4_widthOf_12 : decode cX4_widthOf 12 = .ok (.iload_n 1, 1) := by decide +kernel
theorem dX4_widthOf_13 : decode cX4_widthOf 13 = .ok (.iaload, 1) := by decide +kernel
theorem dX4_widthOf_14 : decode cX4_widthOf 14 = .ok (.iconst (-1), 1) := by decide +kernel
theorem dX4_widthOf_15 : decode cX4_widthOf 15 = .ok (.ixor, 1) := by decide +kernel
theorem dX4_widthOf_16 : decode cX4_widthOf 16 = .ok (.aload_n 0, 1) := by decide +kernel
theorem dX4_widthOf_17 : decode cX4_widthOf 17 = .ok (.getfield 15, 3) := by decide +kernel
theorem dX4_widthOf_20 : decode cX4_widthOf 20 = .ok (.iload_n 1, 1) := by decide +kernel
theorem dX4_widthOf_21 : decode cX4_widthOf 21 = .ok (.iaload, 1) := by decide +kernel
theorem dX4_widthOf_22 : decode cX4_widthOf 22 = .ok (.invokestatic 59, 3) := by decide +kernel
theorem dX4_widthOf_25 : decode cX4_widthOf 25 = .ok (.invokestatic 65, 3) := by decide +kernel
theorem dX4_widthOf_28 : decode cX4_widthOf 28 = .ok (.iconst 1, 1) := by decide +kernel
theorem dX4_widthOf_29 : decode cX4_widthOf 29 = .ok (.iadd, 1) := by decide +kernel
theorem dX4_widthOf_30 : decode cX4_widthOf 30 = .ok (.ireturn, 1) := by decide +kernel
theorem dX4_widthOf_31 : decode cX4_widthOf 31 = .ok (.aload_n 0, 1) := by decide +kernel
theorem dX4_widthOf_32 : decode cX4_widthOf 32 = .ok (.getfield 15, 3) := by decide +kernel
theorem dX4_widthOf_35 : decode cX4_widthOf 35 = .ok (.iload_n 1, 1) := by decide +kernel
theorem dX4_widthOf_36 : decode cX4_widthOf 36 = .ok (.iaload, 1) := by decide +kernel
theorem dX4_widthOf_37 : decode cX4_widthOf 37 = .ok (.invokestatic 65, 3) := by decide +kernel
theorem dX4_widthOf_40 : decode cX4_widthOf 40 = .ok (.iconst 1, 1) := by decide +kernel
theorem dX4_widthOf_41 : decode cX4_widthOf 41 = .ok (.invokestatic 59, 3) := by decide +kernel
theorem dX4_widthOf_44 : decode cX4_widthOf 44 = .ok (.ireturn, 1) := by decide +kernel
theorem dX4_isSignedRange_0 : decode cX4_isSignedRange 0 = .ok (.aload_n 0, 1) := by decide +kernel
theorem dX4_isSignedRange_1 : decode cX4_isSignedRange 1 = .ok (.getfield 9, 3) := by decide +kernel
theorem dX4_isSignedRange_4 : decode cX4_isSignedRange 4 = .ok (.iload_n 1, 1) := by decide +kernel
theorem dX4_isSignedRange_5 : decode cX4_isSignedRange 5 = .ok (.iaload, 1) := by decide +kernel
theorem dX4_isSignedRange_6 : decode cX4_isSignedRange 6 = .ok (.ifCond .ge 7, 3) := by decide +kernel
theorem dX4_isSignedRange_9 : decode cX4_isSignedRange 9 = .ok (.iconst 1, 1) := by decide +kernel
theorem dX4_isSignedRange_10 : decode cX4_isSignedRange 10 = .ok (.goto 4, 3) := by decide +kernel
theorem dX4_isSignedRange_13 : decode cX4_isSignedRange 13 = .ok (.iconst 0, 1) := by decide +kernel
theorem dX4_isSignedRange_14 : decode cX4_isSignedRange 14 = .ok (.ireturn, 1) := by decide +kernel
theorem dX4_findOne_0 : decode cX4_findOne 0 = .ok (.aload_n 1, 1) := by decide +kernel
theorem dX4_findOne_1 : decode cX4_findOne 1 = .ok (.getfield 30, 3) := by decide +kernel
theorem dX4_findOne_4 : decode cX4_findOne 4 = .ok (.iload_n 2, 1) := by decide +kernel
theorem dX4_findOne_5 : decode cX4_findOne 5 = .ok (.iaload, 1) := by decide +kernel
theorem dX4_findOne_6 : decode cX4_findOne 6 = .ok (.istore_n 3, 1) := by decide +kernel
theorem dX4_findOne_7 : decode cX4_findOne 7 = .ok (.aload_n 1, 1) := by decide +kernel
theorem dX4_findOne_8 : decode cX4_findOne 8 = .ok (.getfield 36, 3) := by decide +kernel
theorem dX4_findOne_11 : decode cX4_findOne 11 = .ok (.iload_n 2, 1) := by decide +kernel
theorem dX4_findOne_12 : decode cX4_findOne 12 = .ok (.iaload, 1) := by decide +kernel
theorem dX4_findOne_13 : decode cX4_findOne 13 = .ok (.istore 4, 2) := by decide +kernel
theorem dX4_findOne_15 : decode cX4_findOne 15 = .ok (.aload_n 1, 1) := by decide +kernel
theorem dX4_findOne_16 : decode cX4_findOne 16 = .ok (.getfield 33, 3) := by decide +kernel
theorem dX4_findOne_19 : decode cX4_findOne 19 = .ok (.iload_n 2, 1) := by decide +kernel
theorem dX4_findOne_20 : decode cX4_findOne 20 = .ok (.iaload, 1) := by decide +kernel
theorem dX4_findOne_21 : decode cX4_findOne 21 = .ok (.tableswitch 286 3 12 #[55, 95, 135, 146, 146, 146, 163, 191, 219, 269], 55) := by decide +kernel
theorem dX4_findOne_76 : decode cX4_findOne 76 = .ok (.aload_n 0, 1) := by decide +kernel
theorem dX4_findOne_77 : decode cX4_findOne 77 = .ok (.iload_n 2, 1) := by decide +kernel
theorem dX4_findOne_78 : decode cX4_findOne 78 = .ok (.aload_n 0, 1) := by decide +kernel
theorem dX4_findOne_79 : decode cX4_findOne 79 = .ok (.getfield 9, 3) := by decide +kernel
theorem dX4_findOne_82 : decode cX4_findOne 82 = .ok (.iload_n 3, 1) := by decide +kernel
theorem dX4_findOne_83 : decode cX4_findOne 83 = .ok (.iaload, 1) := by decide +kernel
theorem dX4_findOne_84 : decode cX4_findOne 84 = .ok (.i2l, 1) := by decide +kernel
theorem dX4_findOne_85 : decode cX4_findOne 85 = .ok (.aload_n 0, 1) := by decide +kernel
theorem dX4_findOne_86 : decode cX4_findOne 86 = .ok (.getfield 9, 3) := by decide +kernel
theorem dX4_findOne_89 : decode cX4_findOne 89 = .ok (.iload 4, 2) := by decide +kernel
theorem dX4_findOne_91 : decode cX4_findOne 91 = .ok (.iaload, 1) := by decide +kernel
theorem dX4_findOne_92 : decode cX4_findOne 92 = .ok (.i2l, 1) := by decide +kernel
theorem dX4_findOne_93 : decode cX4_findOne 93 = .ok (.ladd, 1) := by decide +kernel
theorem dX4_findOne_94 : decode cX4_findOne 94 = .ok (.aload_n 0, 1) := by decide +kernel
theorem dX4_findOne_95 : decode cX4_findOne 95 = .ok (.getfield 15, 3) := by decide +kernel
theorem dX4_findOne_98 : decode cX4_findOne 98 = .ok (.iload_n 3, 1) := by decide +kernel
theorem dX4_findOne_99 : decode cX4_findOne 99 = .ok (.iaload, 1) := by decide +kernel
theorem dX4_findOne_100 : decode cX4_findOne 100 = .ok (.i2l, 1) := by decide +kernel
theorem dX4_findOne_101 : decode cX4_findOne 101 = .ok (.aload_n 0, 1) := by decide +kernel
theorem dX4_findOne_102 : decode cX4_findOne 102 = .ok (.getfield 15, 3) := by decide +kernel
theorem dX4_findOne_105 : decode cX4_findOne 105 = .ok (.iload 4, 2) := by decide +kernel
theorem dX4_findOne_107 : decode cX4_findOne 107 = .ok (.iaload, 1) := by decide +kernel
theorem dX4_findOne_108 : decode cX4_findOne 108 = .ok (.i2l, 1) := by decide +kernel
theorem dX4_findOne_109 : decode cX4_findOne 109 = .ok (.ladd, 1) := by decide +kernel
theorem dX4_findOne_110 : decode cX4_findOne 110 = .ok (.invokevirtual 68, 3) := by decide +kernel
theorem dX4_findOne_113 : decode cX4_findOne 113 = .ok (.goto 194, 3) := by decide +kernel
theorem dX4_findOne_116 : decode cX4_findOne 116 = .ok (.aload_n 0, 1) := by decide +kernel
theorem dX4_findOne_117 : decode cX4_findOne 117 = .ok (.iload_n 2, 1) := by decide +kernel
theorem dX4_findOne_118 : decode cX4_findOne 118 = .ok (.aload_n 0, 1) := by decide +kernel
theorem dX4_findOne_119 : decode cX4_findOne 119 = .ok (.getfield 9, 3) := by decide +kernel
theorem dX4_findOne_122 : decode cX4_findOne 122 = .ok (.iload_n 3, 1) := by decide +kernel
theorem dX4_findOne_123 : decode cX4_findOne 123 = .ok (.iaload, 1) := by decide +kernel
theorem dX4_findOne_124 : decode cX4_findOne 124 = .ok (.i2l, 1) := by decide +kernel
theorem dX4_findOne_125 : decode cX4_findOne 125 = .ok (.aload_n 0, 1) := by decide +kernel
theorem dX4_findOne_126 : decode cX4_findOne 126 = .ok (.getfield 15, 3) := by decide +kernel
theorem dX4_findOne_129 : decode cX4_findOne 129 = .ok (.iload 4, 2) := by decide +kernel
theorem dX4_findOne_131 : decode cX4_findOne 131 = .ok (.iaload, 1) := by decide +kernel
theorem dX4_findOne_132 : decode cX4_findOne 132 = .ok (.i2l, 1) := by decide +kernel
theorem dX4_findOne_133 : decode cX4_findOne 133 = .ok (.lsub, 1) := by decide +kernel
theorem dX4_findOne_134 : decode cX4_findOne 134 = .ok (.aload_n 0, 1) := by decide +kernel
theorem dX4_findOne_135 : decode cX4_findOne 135 = .ok (.getfield 15, 3) := by decide +kernel
theorem dX4_findOne_138 : decode cX4_findOne 138 = .ok (.iload_n 3, 1) := by decide +kernel
theorem dX4_findOne_139 : decode cX4_findOne 139 = .ok (.iaload, 1) := by decide +kernel
theorem dX4_findOne_140 : decode cX4_findOne 140 = .ok (.i2l, 1) := by decide +kernel
theorem dX4_findOne_141 : decode cX4_findOne 141 = .ok (.aload_n 0, 1) := by decide +kernel
theorem dX4_findOne_142 : decode cX4_findOne 142 = .ok (.getfield 9, 3) := by decide +kernel
theorem dX4_findOne_145 : decode cX4_findOne 145 = .ok (.iload 4, 2) := by decide +kernel
theorem dX4_findOne_147 : decode cX4_findOne 147 = .ok (.iaload, 1) := by decide +kernel
theorem dX4_findOne_148 : decode cX4_findOne 148 = .ok (.i2l, 1) := by decide +kernel
theorem dX4_findOne_149 : decode cX4_findOne 149 = .ok (.lsub, 1) := by decide +kernel
theorem dX4_findOne_150 : decode cX4_findOne 150 = .ok (.invokevirtual 68, 3) := by decide +kernel
theorem dX4_findOne_153 : decode cX4_findOne 153 = .ok (.goto 154, 3) := by decide +kernel
theorem dX4_findOne_156 : decode cX4_findOne 156 = .ok (.aload_n 0, 1) := by decide +kernel
theorem dX4_findOne_157 : decode cX4_findOne 157 = .ok (.iload_n 2, 1) := by decide +kernel
theorem dX4_findOne_158 : decode cX4_findOne 158 = .ok (.iload_n 3, 1) := by decide +kernel
theorem dX4_findOne_159 : decode cX4_findOne 159 = .ok (.iload 4, 2) := by decide +kernel
theorem dX4_findOne_161 : decode cX4_findOne 161 = .ok (.invokevirtual 72, 3) := by decide +kernel
theorem dX4_findOne_164 : decode cX4_findOne 164 = .ok (.goto 143, 3) := by decide +kernel
theorem dX4_findOne_167 : decode cX4_findOne 167 = .ok (.aload_n 0, 1) := by decide +kernel
theorem dX4_findOne_168 : decode cX4_findOne 168 = .ok (.iload_n 2, 1) := by decide +kernel
theorem dX4_findOne_169 : decode cX4_findOne 169 = .ok (.aload_n 1, 1) := by decide +kernel
theorem dX4_findOne_170 : decode cX4_findOne 170 = .ok (.getfield 33, 3) := by decide +kernel
theorem dX4_findOne_173 : decode cX4_findOne 173 = .ok (.iload_n 2, 1) := by decide +kernel
theorem dX4_findOne_174 : decode cX4_findOne 174 = .ok (.iaload, 1) := by decide +kernel
theorem dX4_findOne_175 : decode cX4_findOne 175 = .ok (.iload_n 3, 1) := by decide +kernel
theorem dX4_findOne_176 : decode cX4_findOne 176 = .ok (.iload 4, 2) := by decide +kernel
theorem dX4_findOne_178 : decode cX4_findOne 178 = .ok (.invokevirtual 76, 3) := by decide +kernel
theorem dX4_findOne_181 : decode cX4_findOne 181 = .ok (.goto 126, 3) := by decide +kernel
theorem dX4_findOne_184 : decode cX4_findOne 184 = .ok (.aload_n 0, 1) := by decide +kernel
theorem dX4_findOne_185 : decode cX4_findOne 185 = .ok (.iload_n 2, 1) := by decide +kernel
theorem dX4_findOne_186 : decode cX4_findOne 186 = .ok (.aload_n 0, 1) := by decide +kernel
theorem dX4_findOne_187 : decode cX4_findOne 187 = .ok (.getfield 9, 3) := by decide +kernel
theorem dX4_findOne_190 : decode cX4_findOne 190 = .ok (.iload_n 3, 1) := by decide +kernel
theorem dX4_findOne_191 : decode cX4_findOne 191 = .ok (.iaload, 1) := by decide +kernel
theorem dX4_findOne_192 : decode cX4_findOne 192 = .ok (.i2l, 1) := by decide +kernel
theorem dX4_findOne_193 : decode cX4_findOne 193 = .ok (.iload 4, 2) := by decide +kernel
theorem dX4_findOne_195 : decode cX4_findOne 195 = .ok (.lshl, 1) := by decide +kernel
theorem dX4_findOne_196 : decode cX4_findOne 196 = .ok (.aload_n 0, 1) := by decide +kernel
theorem dX4_findOne_197 : decode cX4_findOne 197 = .ok (.getfield 15, 3) := by decide +kernel
theorem dX4_findOne_200 : decode cX4_findOne 200 = .ok (.iload_n 3, 1) := by decide +kernel
theorem dX4_findOne_201 : decode cX4_findOne 201 = .ok (.iaload, 1) := by decide +kernel
theorem dX4_findOne_202 : decode cX4_findOne 202 = .ok (.i2l, 1) := by decide +kernel
theorem dX4_findOne_203 : decode cX4_findOne 203 = .ok (.iload 4, 2) := by decide +kernel
theorem dX4_findOne_205 : decode cX4_findOne 205 = .ok (.lshl, 1) := by decide +kernel
theorem dX4_findOne_206 : decode cX4_findOne 206 = .ok (.invokevirtual 68, 3) := by decide +kernel
theorem dX4_findOne_209 : decode cX4_findOne 209 = .ok (.goto 98, 3) := by decide +kernel
theorem dX4_findOne_212 : decode cX4_findOne 212 = .ok (.aload_n 0, 1) := by decide +kernel
theorem dX4_findOne_213 : decode cX4_findOne 213 = .ok (.iload_n 2, 1) := by decide +kernel
theorem dX4_findOne_214 : decode cX4_findOne 214 = .ok (.aload_n 0, 1) := by decide +kernel
theorem dX4_findOne_215 : decode cX4_findOne 215 = .ok (.getfield 9, 3) := by decide +kernel
theorem dX4_findOne_218 : decode cX4_findOne 218 = .ok (.iload_n 3, 1) := by decide +kernel
theorem dX4_findOne_219 : decode cX4_findOne 219 = .ok (.iaload, 1) := by decide +kernel
theorem dX4_findOne_220 : decode cX4_findOne 220 = .ok (.iload 4, 2) := by decide +kernel
theorem dX4_findOne_222 : decode cX4_findOne 222 = .ok (.ishr, 1) := by decide +kernel
theorem dX4_findOne_223 : decode cX4_findOne 223 = .ok (.i2l, 1) := by decide +kernel
theorem dX4_findOne_224 : decode cX4_findOne 224 = .ok (.aload_n 0, 1) := by decide +kernel
theorem dX4_findOne_225 : decode cX4_findOne 225 = .ok (.getfield 15, 3) := by decide +kernel
theorem dX4_findOne_228 : decode cX4_findOne 228 = .ok (.iload_n 3, 1) := by decide +kernel
theorem dX4_findOne_229 : decode cX4_findOne 229 = .ok (.iaload, 1) := by decide +kernel
theorem dX4_findOne_230 : decode cX4_findOne 230 = .ok (.iload 4, 2) := by decide +kernel
theorem dX4_findOne_232 : decode cX4_findOne 232 = .ok (.ishr, 1) := by decide +kernel
theorem dX4_findOne_233 : decode cX4_findOne 233 = .ok (.i2l, 1) := by decide +kernel
theorem dX4_findOne_234 : decode cX4_findOne 234 = .ok (.invokevirtual 68, 3) := by decide +kernel
theorem dX4_findOne_237 : decode cX4_findOne 237 = .ok (.goto 70, 3) := by decide +kernel
theorem dX4_findOne_240 : decode cX4_findOne 240 = .ok (.aload_n 0, 1) := by decide +kernel
theorem dX4_findOne_241 : decode cX4_findOne 241 = .ok (.iload_n 2, 1) := by decide +kernel
theorem dX4_findOne_242 : decode cX4_findOne 242 = .ok (.aload_n 0, 1) := by decide +kernel
theorem dX4_findOne_243 : decode cX4_findOne 243 = .ok (.getfield 15, 3) := by decide +kernel
theorem dX4_findOne_246 : decode cX4_findOne 246 = .ok (.iload_n 3, 1) := by decide +kernel
theorem dX4_findOne_247 : decode cX4_findOne 247 = .ok (.iaload, 1) := by decide +kernel
theorem dX4_findOne_248 : decode cX4_findOne 248 = .ok (.aload_n 0, 1) := by decide +kernel
theorem dX4_findOne_249 : decode cX4_findOne 249 = .ok (.getfield 9, 3) := by decide +kernel
theorem dX4_findOne_252 : decode cX4_findOne 252 = .ok (.iload 4, 2) := by decide +kernel
theorem dX4_findOne_254 : decode cX4_findOne 254 = .ok (.iaload, 1) := by decide +kernel
theorem dX4_findOne_255 : decode cX4_findOne 255 = .ok (.if_icmp .ge 7, 3) := by decide +kernel
theorem dX4_findOne_258 : decode cX4_findOne 258 = .ok (.lconst 1, 1) := by decide +kernel
theorem dX4_findOne_259 : decode cX4_findOne 259 = .ok (.goto 4, 3) := by decide +kernel
theorem dX4_findOne_262 : decode cX4_findOne 262 = .ok (.lconst 0, 1) := by decide +kernel
theorem dX4_findOne_263 : decode cX4_findOne 263 = .ok (.aload_n 0, 1) := by decide +kernel
theorem dX4_findOne_264 : decode cX4_findOne 264 = .ok (.getfield 9, 3) := by decide +kernel
theorem dX4_findOne_267 : decode cX4_findOne 267 = .ok (.iload_n 3, 1) := by decide +kernel
theorem dX4_findOne_268 : decode cX4_findOne 268 = .ok (.iaload, 1) := by decide +kernel
theorem dX4_findOne_269 : decode cX4_findOne 269 = .ok (.aload_n 0, 1) := by decide +kernel
theorem dX4_findOne_270 : decode cX4_findOne 270 = .ok (.getfield 15, 3) := by decide +kernel
theorem dX4_findOne_273 : decode cX4_findOne 273 = .ok (.iload 4, 2) := by decide +kernel
theorem dX4_findOne_275 : decode cX4_findOne 275 = .ok (.iaload, 1) := by decide +kernel
theorem dX4_findOne_276 : decode cX4_findOne 276 = .ok (.if_icmp .lt 7, 3) := by decide +kernel
theorem dX4_findOne_279 : decode cX4_findOne 279 = .ok (.lconst 0, 1) := by decide +kernel
theorem dX4_findOne_280 : decode cX4_findOne 280 = .ok (.goto 4, 3) := by decide +kernel
theorem dX4_findOne_283 : decode cX4_findOne 283 = .ok (.lconst 1, 1) := by decide +kernel
theorem dX4_findOne_284 : decode cX4_findOne 284 = .ok (.invokevirtual 68, 3) := by decide +kernel
theorem dX4_findOne_287 : decode cX4_findOne 287 = .ok (.goto 20, 3) := by decide +kernel
theorem dX4_findOne_290 : decode cX4_findOne 290 = .ok (.aload_n 0, 1) := by decide +kernel
theorem dX4_findOne_291 : decode cX4_findOne 291 = .ok (.iload_n 2, 1) := by decide +kernel
theorem dX4_findOne_292 : decode cX4_findOne 292 = .ok (.iload_n 3, 1) := by decide +kernel
theorem dX4_findOne_293 : decode cX4_findOne 293 = .ok (.iload 4, 2) := by decide +kernel
theorem dX4_findOne_295 : decode cX4_findOne 295 = .ok (.aload_n 1, 1) := by decide +kernel
theorem dX4_findOne_296 : decode cX4_findOne 296 = .ok (.getfield 80, 3) := by decide +kernel
theorem dX4_findOne_299 : decode cX4_findOne 299 = .ok (.iload_n 2, 1) := by decide +kernel
theorem dX4_findOne_300 : decode cX4_findOne 300 = .ok (.iaload, 1) := by decide +kernel
theorem dX4_findOne_301 : decode cX4_findOne 301 = .ok (.invokevirtual 83, 3) := by decide +kernel
theorem dX4_findOne_304 : decode cX4_findOne 304 = .ok (.goto 3, 3) := by decide +kernel
theorem dX4_findOne_307 : decode cX4_findOne 307 = .ok (.return_, 1) := by decide +kernel
theorem dX4_become_0 : decode cX4_become 0 = .ok (.lload_n 2, 1) := by decide +kernel
theorem dX4_become_1 : decode cX4_become 1 = .ok (.ldc2_w 86, 3) := by decide +kernel
theorem dX4_become_4 : decode cX4_become 4 = .ok (.lcmp, 1) := by decide +kernel
theorem dX4_become_5 : decode cX4_become 5 = .ok (.ifCond .lt 16, 3) := by decide +kernel
theorem dX4_become_8 : decode cX4_become 8 = .ok (.lload 4, 2) := by decide +kernel
theorem dX4_become_10 : decode cX4_become 10 = .ok (.ldc2_w 88, 3) := by decide +kernel
theorem dX4_become_13 : decode cX4_become 13 = .ok (.lcmp, 1) := by decide +kernel
theorem dX4_become_14 : decode cX4_become 14 = .ok (.ifCond .gt 7, 3) := by decide +kernel
theorem dX4_become_17 : decode cX4_become 17 = .ok (.iconst 1, 1) := by decide +kernel
theorem dX4_become_18 : decode cX4_become 18 = .ok (.goto 4, 3) := by decide +kernel
theorem dX4_become_21 : decode cX4_become 21 = .ok (.iconst 0, 1) := by decide +kernel
theorem dX4_become_22 : decode cX4_become 22 = .ok (.istore 6, 2) := by decide +kernel
theorem dX4_become_24 : decode cX4_become 24 = .ok (.aload_n 0, 1) := by decide +kernel
theorem dX4_become_25 : decode cX4_become 25 = .ok (.getfield 9, 3) := by decide +kernel
theorem dX4_become_28 : decode cX4_become 28 = .ok (.iload_n 1, 1) := by decide +kernel
theorem dX4_become_29 : decode cX4_become 29 = .ok (.iload 6, 2) := by decide +kernel
theorem dX4_become_31 : decode cX4_become 31 = .ok (.ifCond .eq 8, 3) := by decide +kernel
theorem dX4_become_34 : decode cX4_become 34 = .ok (.lload_n 2, 1) := by decide +kernel
theorem dX4_become_35 : decode cX4_become 35 = .ok (.l2i, 1) := by decide +kernel
theorem dX4_become_36 : decode cX4_become 36 = .ok (.goto 5, 3) := by decide +kernel
theorem dX4_become_39 : decode cX4_become 39 = .ok (.ldc 90, 2) := by decide +kernel
theorem dX4_become_41 : decode cX4_become 41 = .ok (.iastore, 1) := by decide +kernel
theorem dX4_become_42 : decode cX4_become 42 = .ok (.aload_n 0, 1) := by decide +kernel
theorem dX4_become_43 : decode cX4_become 43 = .ok (.getfield 15, 3) := by decide +kernel
theorem dX4_become_46 : decode cX4_become 46 = .ok (.iload_n 1, 1) := by decide +kernel
theorem dX4_become_47 : decode cX4_become 47 = .ok (.iload 6, 2) := by decide +kernel
theorem dX4_become_49 : decode cX4_become 49 = .ok (.ifCond .eq 9, 3) := by decide +kernel
theorem dX4_become_52 : decode cX4_become 52 = .ok (.lload 4, 2) := by decide +kernel
theorem dX4_become_54 : decode cX4_become 54 = .ok (.l2i, 1) := by decide +kernel
theorem dX4_become_55 : decode cX4_become 55 = .ok (.goto 5, 3) := by decide +kernel
theorem dX4_become_58 : decode cX4_become 58 = .ok (.ldc 91, 2) := by decide +kernel
theorem dX4_become_60 : decode cX4_become 60 = .ok (.iastore, 1) := by decide +kernel
theorem dX4_become_61 : decode cX4_become 61 = .ok (.return_, 1) := by decide +kernel
theorem dX4_findProduct_0 : decode cX4_findProduct 0 = .ok (.aload_n 0, 1) := by decide +kernel
theorem dX4_findProduct_1 : decode cX4_findProduct 1 = .ok (.getfield 9, 3) := by decide +kernel
theorem dX4_findProduct_4 : decode cX4_findProduct 4 = .ok (.iload_n 2, 1) := by decide +kernel
theorem dX4_findProduct_5 : decode cX4_findProduct 5 = .ok (.iaload, 1) := by decide +kernel
theorem dX4_findProduct_6 : decode cX4_findProduct 6 = .ok (.i2l, 1) := by decide +kernel
theorem dX4_findProduct_7 : decode cX4_findProduct 7 = .ok (.aload_n 0, 1) := by decide +kernel
theorem dX4_findProduct_8 : decode cX4_findProduct 8 = .ok (.getfield 9, 3) := by decide +kernel
theorem dX4_findProduct_11 : decode cX4_findProduct 11 = .ok (.iload_n 3, 1) := by decide +kernel
theorem dX4_findProduct_12 : decode cX4_findProduct 12 = .ok (.iaload, 1) := by decide +kernel
theorem dX4_findProduct_13 : decode cX4_findProduct 13 = .ok (.i2l, 1) := by decide +kernel
theorem dX4_findProduct_14 : decode cX4_findProduct 14 = .ok (.lmul, 1) := by decide +kernel
theorem dX4_findProduct_15 : decode cX4_findProduct 15 = .ok (.lstore 4, 2) := by decide +kernel
theorem dX4_findProduct_17 : decode cX4_findProduct 17 = .ok (.aload_n 0, 1) := by decide +kernel
theorem dX4_findProduct_18 : decode cX4_findProduct 18 = .ok (.getfield 9, 3) := by decide +kernel
theorem dX4_findProduct_21 : decode cX4_findProduct 21 = .ok (.iload_n 2, 1) := by decide +kernel
theorem dX4_findProduct_22 : decode cX4_findProduct 22 = .ok (.iaload, 1) := by decide +kernel
theorem dX4_findProduct_23 : decode cX4_findProduct 23 = .ok (.i2l, 1) := by decide +kernel
theorem dX4_findProduct_24 : decode cX4_findProduct 24 = .ok (.aload_n 0, 1) := by decide +kernel
theorem dX4_findProduct_25 : decode cX4_findProduct 25 = .ok (.getfield 15, 3) := by decide +kernel
theorem dX4_findProduct_28 : decode cX4_findProduct 28 = .ok (.iload_n 3, 1) := by decide +kernel
theorem dX4_findProduct_29 : decode cX4_findProduct 29 = .ok (.iaload, 1) := by decide +kernel
theorem dX4_findProduct_30 : decode cX4_findProduct 30 = .ok (.i2l, 1) := by decide +kernel
theorem dX4_findProduct_31 : decode cX4_findProduct 31 = .ok (.lmul, 1) := by decide +kernel
theorem dX4_findProduct_32 : decode cX4_findProduct 32 = .ok (.lstore 6, 2) := by decide +kernel
theorem dX4_findProduct_34 : decode cX4_findProduct 34 = .ok (.aload_n 0, 1) := by decide +kernel
theorem dX4_findProduct_35 : decode cX4_findProduct 35 = .ok (.getfield 15, 3) := by decide +kernel
theorem dX4_findProduct_38 : decode cX4_findProduct 38 = .ok (.iload_n 2, 1) := by decide +kernel
theorem dX4_findProduct_39 : decode cX4_findProduct 39 = .ok (.iaload, 1) := by decide +kernel
theorem dX4_findProduct_40 : decode cX4_findProduct 40 = .ok (.i2l, 1) := by decide +kernel
theorem dX4_findProduct_41 : decode cX4_findProduct 41 = .ok (.aload_n 0, 1) := by decide +kernel
theorem dX4_findProduct_42 : decode cX4_findProduct 42 = .ok (.getfield 9, 3) := by decide +kernel
theorem dX4_findProduct_45 : decode cX4_findProduct 45 = .ok (.iload_n 3, 1) := by decide +kernel
theorem dX4_findProduct_46 : decode cX4_findProduct 46 = .ok (.iaload, 1) := by decide +kernel
theorem dX4_findProduct_47 : decode cX4_findProduct 47 = .ok (.i2l, 1) := by decide +kernel
theorem dX4_findProduct_48 : decode cX4_findProduct 48 = .ok (.lmul, 1) := by decide +kernel
theorem dX4_findProduct_49 : decode cX4_findProduct 49 = .ok (.lstore 8, 2) := by decide +kernel
theorem dX4_findProduct_51 : decode cX4_findProduct 51 = .ok (.aload_n 0, 1) := by decide +kernel
theorem dX4_findProduct_52 : decode cX4_findProduct 52 = .ok (.getfield 15, 3) := by decide +kernel
theorem dX4_findProduct_55 : decode cX4_findProduct 55 = .ok (.iload_n 2, 1) := by decide +kernel
theorem dX4_findProduct_56 : decode cX4_findProduct 56 = .ok (.iaload, 1) := by decide +kernel
theorem dX4_findProduct_57 : decode cX4_findProduct 57 = .ok (.i2l, 1) := by decide +kernel
theorem dX4_findProduct_58 : decode cX4_findProduct 58 = .ok (.aload_n 0, 1) := by decide +kernel
theorem dX4_findProduct_59 : decode cX4_findProduct 59 = .ok (.getfield 15, 3) := by decide +kernel
theorem dX4_findProduct_62 : decode cX4_findProduct 62 = .ok (.iload_n 3, 1) := by decide +kernel
theorem dX4_findProduct_63 : decode cX4_findProduct 63 = .ok (.iaload, 1) := by decide +kernel
theorem dX4_findProduct_64 : decode cX4_findProduct 64 = .ok (.i2l, 1) := by decide +kernel
theorem dX4_findProduct_65 : decode cX4_findProduct 65 = .ok (.lmul, 1) := by decide +kernel
theorem dX4_findProduct_66 : decode cX4_findProduct 66 = .ok (.lstore 10, 2) := by decide +kernel
theorem dX4_findProduct_68 : decode cX4_findProduct 68 = .ok (.aload_n 0, 1) := by decide +kernel
theorem dX4_findProduct_69 : decode cX4_findProduct 69 = .ok (.iload_n 1, 1) := by decide +kernel
theorem dX4_findProduct_70 : decode cX4_findProduct 70 = .ok (.lload 4, 2) := by decide +kernel
theorem dX4_findProduct_72 : decode cX4_findProduct 72 = .ok (.lload 6, 2) := by decide +kernel
theorem dX4_findProduct_74 : decode cX4_findProduct 74 = .ok (.invokestatic 92, 3) := by decide +kernel
theorem dX4_findProduct_77 : decode cX4_findProduct 77 = .ok (.lload 8, 2) := by decide +kernel
theorem dX4_findProduct_79 : decode cX4_findProduct 79 = .ok (.lload 10, 2) := by decide +kernel
theorem dX4_findProduct_81 : decode cX4_findProduct 81 = .ok (.invokestatic 92, 3) := by decide +kernel
theorem dX4_findProduct_84 : decode cX4_findProduct 84 = .ok (.invokestatic 92, 3) := by decide +kernel
theorem dX4_findProduct_87 : decode cX4_findProduct 87 = .ok (.lload 4, 2) := by decide +kernel
theorem dX4_findProduct_89 : decode cX4_findProduct 89 = .ok (.lload 6, 2) := by decide +kernel
theorem dX4_findProduct_91 : decode cX4_findProduct 91 = .ok (.invokestatic 96, 3) := by decide +kernel
theorem dX4_findProduct_94 : decode cX4_findProduct 94 = .ok (.lload 8, 2) := by decide +kernel
theorem dX4_findProduct_96 : decode cX4_findProduct 96 = .ok (.lload 10, 2) := by decide +kernel
theorem dX4_findProduct_98 : decode cX4_findProduct 98 = .ok (.invokestatic 96, 3) := by decide +kernel
theorem dX4_findProduct_101 : decode cX4_findProduct 101 = .ok (.invokestatic 96, 3) := by decide +kernel
theorem dX4_findProduct_104 : decode cX4_findProduct 104 = .ok (.invokevirtual 68, 3) := by decide +kernel
theorem dX4_findProduct_107 : decode cX4_findProduct 107 = .ok (.return_, 1) := by decide +kernel
theorem dX4_findBitwise_0 : decode cX4_findBitwise 0 = .ok (.aload_n 0, 1) := by decide +kernel
theorem dX4_findBitwise_1 : decode cX4_findBitwise 1 = .ok (.iload_n 3, 1) := by decide +kernel
theorem dX4_findBitwise_2 : decode cX4_findBitwise 2 = .ok (.invokevirtual 55, 3) := by decide +kernel
theorem dX4_findBitwise_5 : decode cX4_findBitwise 5 = .ok (.istore 5, 2) := by decide +kernel
theorem dX4_findBitwise_7 : decode cX4_findBitwise 7 = .ok (.aload_n 0, 1) := by decide +kernel
theorem dX4_findBitwise_8 : decode cX4_findBitwise 8 = .ok (.iload 4, 2) := by decide +kernel
theorem dX4_findBitwise_10 : decode cX4_findBitwise 10 = .ok (.invokevirtual 55, 3) := by decide +kernel
theorem dX4_findBitwise_13 : decode cX4_findBitwise 13 = .ok (.istore 6, 2) := by decide +kernel
theorem dX4_findBitwise_15 : decode cX4_findBitwise 15 = .ok (.aload_n 0, 1) := by decide +kernel
theorem dX4_findBitwise_16 : decode cX4_findBitwise 16 = .ok (.getfield 15, 3) := by decide +kernel
theorem dX4_findBitwise_19 : decode cX4_findBitwise 19 = .ok (.iload_n 3, 1) := by decide +kernel
theorem dX4_findBitwise_20 : decode cX4_findBitwise 20 = .ok (.iaload, 1) := by decide +kernel
theorem dX4_findBitwise_21 : decode cX4_findBitwise 21 = .ok (.aload_n 0, 1) := by decide +kernel
theorem dX4_findBitwise_22 : decode cX4_findBitwise 22 = .ok (.getfield 15, 3) := by decide +kernel
theorem dX4_findBitwise_25 : decode cX4_findBitwise 25 = .ok (.iload 4, 2) := by decide +kernel
theorem dX4_findBitwise_27 : decode cX4_findBitwise 27 = .ok (.iaload, 1) := by decide +kernel
theorem dX4_findBitwise_28 : decode cX4_findBitwise 28 = .ok (.invokestatic 59, 3) := by decide +kernel
theorem dX4_findBitwise_31 : decode cX4_findBitwise 31 = .ok (.istore 7, 2) := by decide +kernel
theorem dX4_findBitwise_33 : decode cX4_findBitwise 33 = .ok (.iload_n 2, 1) := by decide +kernel
theorem dX4_findBitwise_34 : decode cX4_findBitwise 34 = .ok (.bipush 6, 2) := by decide +kernel
theorem dX4_findBitwise_36 : decode cX4_findBitwise 36 = .ok (.if_icmp .ne 74, 3) := by decide +kernel
theorem dX4_findBitwise_39 : decode cX4_findBitwise 39 = .ok (.iload 5, 2) := by decide +kernel
theorem dX4_findBitwise_41 : decode cX4_findBitwise 41 = .ok (.ifCond .eq 8, 3) := by decide +kernel
theorem dX4_findBitwise_44 : decode cX4_findBitwise 44 = .ok (.iload 6, 2) := by decide +kernel
theorem dX4_findBitwise_46 : decode cX4_findBitwise 46 = .ok (.ifCond .ne 64, 3) := by decide +kernel
theorem dX4_findBitwise_49 : decode cX4_findBitwise 49 = .ok (.aload_n 0, 1) := by decide +kernel
theorem dX4_findBitwise_50 : decode cX4_findBitwise 50 = .ok (.getfield 15, 3) := by decide +kernel
theorem dX4_findBitwise_53 : decode cX4_findBitwise 53 = .ok (.iload_n 3, 1) := by decide +kernel
theorem dX4_findBitwise_54 : decode cX4_findBitwise 54 = .ok (.iaload, 1) := by decide +kernel
theorem dX4_findBitwise_55 : decode cX4_findBitwise 55 = .ok (.aload_n 0, 1) := by decide +kernel
theorem dX4_findBitwise_56 : decode cX4_findBitwise 56 = .ok (.getfield 15, 3) := by decide +kernel
theorem dX4_findBitwise_59 : decode cX4_findBitwise 59 = .ok (.iload 4, 2) := by decide +kernel
theorem dX4_findBitwise_61 : decode cX4_findBitwise 61 = .ok (.iaload, 1) := by decide +kernel
theorem dX4_findBitwise_62 : decode cX4_findBitwise 62 = .ok (.invokestatic 98, 3) := by decide +kernel
theorem dX4_findBitwise_65 : decode cX4_findBitwise 65 = .ok (.istore 8, 2) := by decide +kernel
theorem dX4_findBitwise_67 : decode cX4_findBitwise 67 = .ok (.aload_n 0, 1) := by decide +kernel
theorem dX4_findBitwise_68 : decode cX4_findBitwise 68 = .ok (.iload_n 1, 1) := by decide +kernel
theorem dX4_findBitwise_69 : decode cX4_findBitwise 69 = .ok (.lconst 0, 1) := by decide +kernel
theorem dX4_findBitwise_70 : decode cX4_findBitwise 70 = .ok (.iload 5, 2) := by decide +kernel
theorem dX4_findBitwise_72 : decode cX4_findBitwise 72 = .ok (.ifCond .eq 14, 3) := by decide +kernel
theorem dX4_findBitwise_75 : decode cX4_findBitwise 75 = .ok (.aload_n 0, 1) := by decide +kernel
theorem dX4_findBitwise_76 : decode cX4_findBitwise 76 = .ok (.getfield 15, 3) := by decide +kernel
theorem dX4_findBitwise_79 : decode cX4_findBitwise 79 = .ok (.iload 4, 2) := by decide +kernel
theorem dX4_findBitwise_81 : decode cX4_findBitwise 81 = .ok (.iaload, 1) := by decide +kernel
theorem dX4_findBitwise_82 : decode cX4_findBitwise 82 = .ok (.i2l, 1) := by decide +kernel
theorem dX4_findBitwise_83 : decode cX4_findBitwise 83 = .ok (.goto 21, 3) := by decide +kernel
theorem dX4_findBitwise_86 : decode cX4_findBitwise 86 = .ok (.iload 6, 2) := by decide +kernel
theorem dX4_findBitwise_88 : decode cX4_findBitwise 88 = .ok (.ifCond .eq 13, 3) := by decide +kernel
theorem dX4_findBitwise_91 : decode cX4_findBitwise 91 = .ok (.aload_n 0, 1) := by decide +kernel
theorem dX4_findBitwise_92 : decode cX4_findBitwise 92 = .ok (.getfield 15, 3) := by decide +kernel
theorem dX4_findBitwise_95 : decode cX4_findBitwise 95 = .ok (.iload_n 3, 1) := by decide +kernel
theorem dX4_findBitwise_96 : decode cX4_findBitwise 96 = .ok (.iaload, 1) := by decide +kernel
theorem dX4_findBitwise_97 : decode cX4_findBitwise 97 = .ok (.i2l, 1) := by decide +kernel
theorem dX4_findBitwise_98 : decode cX4_findBitwise 98 = .ok (.goto 6, 3) := by decide +kernel
theorem dX4_findBitwise_101 : decode cX4_findBitwise 101 = .ok (.iload 8, 2) := by decide +kernel
theorem dX4_findBitwise_103 : decode cX4_findBitwise 103 = .ok (.i2l, 1) := by decide +kernel
theorem dX4_findBitwise_104 : decode cX4_findBitwise 104 = .ok (.invokevirtual 68, 3) := by decide +kernel
theorem dX4_findBitwise_107 : decode cX4_findBitwise 107 = .ok (.goto 73, 3) := by decide +kernel
theorem dX4_findBitwise_110 : decode cX4_findBitwise 110 = .ok (.iload 5, 2) := by decide +kernel
theorem dX4_findBitwise_112 : decode cX4_findBitwise 112 = .ok (.ifCond .ne 23, 3) := by decide +kernel
theorem dX4_findBitwise_115 : decode cX4_findBitwise 115 = .ok (.iload 6, 2) := by decide +kernel
theorem dX4_findBitwise_117 : decode cX4_findBitwise 117 = .ok (.ifCond .ne 18, 3) := by decide +kernel
theorem dX4_findBitwise_120 : decode cX4_findBitwise 120 = .ok (.aload_n 0, 1) := by decide +kernel
theorem dX4_findBitwise_121 : decode cX4_findBitwise 121 = .ok (.iload_n 1, 1) := by decide +kernel
theorem dX4_findBitwise_122 : decode cX4_findBitwise 122 = .ok (.lconst 0, 1) := by decide +kernel
theorem dX4_findBitwise_123 : decode cX4_findBitwise 123 = .ok (.iload 7, 2) := by decide +kernel
theorem dX4_findBitwise_125 : decode cX4_findBitwise 125 = .ok (.invokestatic 100, 3) := by decide +kernel
theorem dX4_findBitwise_128 : decode cX4_findBitwise 128 = .ok (.i2l, 1) := by decide +kernel
theorem dX4_findBitwise_129 : decode cX4_findBitwise 129 = .ok (.invokevirtual 68, 3) := by decide +kernel
theorem dX4_findBitwise_132 : decode cX4_findBitwise 132 = .ok (.goto 48, 3) := by decide +kernel
theorem dX4_findBitwise_135 : decode cX4_findBitwise 135 = .ok (.aload_n 0, 1) := by decide +kernel
theorem dX4_findBitwise_136 : decode cX4_findBitwise 136 = .ok (.getfield 9, 3) := by decide +kernel
theorem dX4_findBitwise_139 : decode cX4_findBitwise 139 = .ok (.iload_n 3, 1) := by decide +kernel
theorem dX4_findBitwise_140 : decode cX4_findBitwise 140 = .ok (.iaload, 1) := by decide +kernel
theorem dX4_findBitwise_141 : decode cX4_findBitwise 141 = .ok (.aload_n 0, 1) := by decide +kernel
theorem dX4_findBitwise_142 : decode cX4_findBitwise 142 = .ok (.getfield 9, 3) := by decide +kernel
theorem dX4_findBitwise_145 : decode cX4_findBitwise 145 = .ok (.iload 4, 2) := by decide +kernel
theorem dX4_findBitwise_147 : decode cX4_findBitwise 147 = .ok (.iaload, 1) := by decide +kernel
theorem dX4_findBitwise_148 : decode cX4_findBitwise 148 = .ok (.invokestatic 98, 3) := by decide +kernel
theorem dX4_findBitwise_151 : decode cX4_findBitwise 151 = .ok (.istore 8, 2) := by decide +kernel
theorem dX4_findBitwise_153 : decode cX4_findBitwise 153 = .ok (.iload 8, 2) := by decide +kernel
theorem dX4_findBitwise_155 : decode cX4_findBitwise 155 = .ok (.iconst (-1), 1) := by decide +kernel
theorem dX4_findBitwise_156 : decode cX4_findBitwise 156 = .ok (.ixor, 1) := by decide +kernel
theorem dX4_findBitwise_157 : decode cX4_findBitwise 157 = .ok (.iload 7, 2) := by decide +kernel
theorem dX4_findBitwise_159 : decode cX4_findBitwise 159 = .ok (.invokestatic 59, 3) := by decide +kernel
theorem dX4_findBitwise_162 : decode cX4_findBitwise 162 = .ok (.invokestatic 100, 3) := by decide +kernel
theorem dX4_findBitwise_165 : decode cX4_findBitwise 165 = .ok (.istore 9, 2) := by decide +kernel
theorem dX4_findBitwise_167 : decode cX4_findBitwise 167 = .ok (.aload_n 0, 1) := by decide +kernel
theorem dX4_findBitwise_168 : decode cX4_findBitwise 168 = .ok (.iload_n 1, 1) := by decide +kernel
theorem dX4_findBitwise_169 : decode cX4_findBitwise 169 = .ok (.iload 9, 2) := by decide +kernel
theorem dX4_findBitwise_171 : decode cX4_findBitwise 171 = .ok (.iconst (-1), 1) := by decide +kernel
theorem dX4_findBitwise_172 : decode cX4_findBitwise 172 = .ok (.ixor, 1) := by decide +kernel
theorem dX4_findBitwise_173 : decode cX4_findBitwise 173 = .ok (.i2l, 1) := by decide +kernel
theorem dX4_findBitwise_174 : decode cX4_findBitwise 174 = .ok (.iload 9, 2) := by decide +kernel
theorem dX4_findBitwise_176 : decode cX4_findBitwise 176 = .ok (.i2l, 1) := by decide +kernel
theorem dX4_findBitwise_177 : decode cX4_findBitwise 177 = .ok (.invokevirtual 68, 3) := by decide +kernel
theorem dX4_findBitwise_180 : decode cX4_findBitwise 180 = .ok (.return_, 1) := by decide +kernel
theorem dX4_findChoice_0 : decode cX4_findChoice 0 = .ok (.aload_n 0, 1) := by decide +kernel
theorem dX4_findChoice_1 : decode cX4_findChoice 1 = .ok (.getfield 9, 3) := by decide +kernel
theorem dX4_findChoice_4 : decode cX4_findChoice 4 = .ok (.iload_n 2, 1) := by decide +kernel
theorem dX4_findChoice_5 : decode cX4_findChoice 5 = .ok (.iaload, 1) := by decide +kernel
theorem dX4_findChoice_6 : decode cX4_findChoice 6 = .ok (.ifCond .gt 12, 3) := by decide +kernel
theorem dX4_findChoice_9 : decode cX4_findChoice 9 = .ok (.aload_n 0, 1) := by decide +kernel
theorem dX4_findChoice_10 : decode cX4_findChoice 10 = .ok (.getfield 15, 3) := by decide +kernel
theorem dX4_findChoice_13 : decode cX4_findChoice 13 = .ok (.iload_n 2, 1) := by decide +kernel
theorem dX4_findChoice_14 : decode cX4_findChoice 14 = .ok (.iaload, 1) := by decide +kernel
theorem dX4_findChoice_15 : decode cX4_findChoice 15 = .ok (.ifCond .ge 25, 3) := by decide +kernel
theorem dX4_findChoice_18 : decode cX4_findChoice 18 = .ok (.aload_n 0, 1) := by decide +kernel
theorem dX4_findChoice_19 : decode cX4_findChoice 19 = .ok (.iload_n 1, 1) := by decide +kernel
theorem dX4_findChoice_20 : decode cX4_findChoice 20 = .ok (.aload_n 0, 1) := by decide +kernel
theorem dX4_findChoice_21 : decode cX4_findChoice 21 = .ok (.getfield 9, 3) := by decide +kernel
theorem dX4_findChoice_24 : decode cX4_findChoice 24 = .ok (.iload_n 3, 1) := by decide +kernel
theorem dX4_findChoice_25 : decode cX4_findChoice 25 = .ok (.iaload, 1) := by decide +kernel
theorem dX4_findChoice_26 : decode cX4_findChoice 26 = .ok (.i2l, 1) := by decide +kernel
theorem dX4_findChoice_27 : decode cX4_findChoice 27 = .ok (.aload_n 0, 1) := by decide +kernel
theorem dX4_findChoice_28 : decode cX4_findChoice 28 = .ok (.getfield 15, 3) := by decide +kernel
theorem dX4_findChoice_31 : decode cX4_findChoice 31 = .ok (.iload_n 3, 1) := by decide +kernel
theorem dX4_findChoice_32 : decode cX4_findChoice 32 = .ok (.iaload, 1) := by decide +kernel
theorem dX4_findChoice_33 : decode cX4_findChoice 33 = .ok (.i2l, 1) := by decide +kernel
theorem dX4_findChoice_34 : decode cX4_findChoice 34 = .ok (.invokevirtual 68, 3) := by decide +kernel
theorem dX4_findChoice_37 : decode cX4_findChoice 37 = .ok (.goto 84, 3) := by decide +kernel
theorem dX4_findChoice_40 : decode cX4_findChoice 40 = .ok (.aload_n 0, 1) := by decide +kernel
theorem dX4_findChoice_41 : decode cX4_findChoice 41 = .ok (.getfield 9, 3) := by decide +kernel
theorem dX4_findChoice_44 : decode cX4_findChoice 44 = .ok (.iload_n 2, 1) := by decide +kernel
theorem dX4_findChoice_45 : decode cX4_findChoice 45 = .ok (.iaload, 1) := by decide +kernel
theorem dX4_findChoice_46 : decode cX4_findChoice 46 = .ok (.ifCond .ne 36, 3) := by decide +kernel
theorem dX4_findChoice_49 : decode cX4_findChoice 49 = .ok (.aload_n 0, 1) := by decide +kernel
theorem dX4_findChoice_50 : decode cX4_findChoice 50 = .ok (.getfield 15, 3) := by decide +kernel
theorem dX4_findChoice_53 : decode cX4_findChoice 53 = .ok (.iload_n 2, 1) := by decide +kernel
theorem dX4_findChoice_54 : decode cX4_findChoice 54 = .ok (.iaload, 1) := by decide +kernel
theorem dX4_findChoice_55 : decode cX4_findChoice 55 = .ok (.ifCond .ne 27, 3) := by decide +kernel
theorem dX4_findChoice_58 : decode cX4_findChoice 58 = .ok (.aload_n 0, 1) := by decide +kernel
theorem dX4_findChoice_59 : decode cX4_findChoice 59 = .ok (.iload_n 1, 1) := by decide +kernel
theorem dX4_findChoice_60 : decode cX4_findChoice 60 = .ok (.aload_n 0, 1) := by decide +kernel
theorem dX4_findChoice_61 : decode cX4_findChoice 61 = .ok (.getfield 9, 3) := by decide +kernel
theorem dX4_findChoice_64 : decode cX4_findChoice 64 = .ok (.iload 4, 2) := by decide +kernel
theorem dX4_findChoice_66 : decode cX4_findChoice 66 = .ok (.iaload, 1) := by decide +kernel
theorem dX4_findChoice_67 : decode cX4_findChoice 67 = .ok (.i2l, 1) := by decide +kernel
theorem dX4_findChoice_68 : decode cX4_findChoice 68 = .ok (.aload_n 0, 1) := by decide +kernel
theorem dX4_findChoice_69 : decode cX4_findChoice 69 = .ok (.getfield 15, 3) := by decide +kernel
theorem dX4_findChoice_72 : decode cX4_findChoice 72 = .ok (.iload 4, 2) := by decide +kernel
theorem dX4_findChoice_74 : decode cX4_findChoice 74 = .ok (.iaload, 1) := by decide +kernel
theorem dX4_findChoice_75 : decode cX4_findChoice 75 = .ok (.i2l, 1) := by decide +kernel
theorem dX4_findChoice_76 : decode cX4_findChoice 76 = .ok (.invokevirtual 68, 3) := by decide +kernel
theorem dX4_findChoice_79 : decode cX4_findChoice 79 = .ok (.goto 42, 3) := by decide +kernel
theorem dX4_findChoice_82 : decode cX4_findChoice 82 = .ok (.aload_n 0, 1) := by decide +kernel
theorem dX4_findChoice_83 : decode cX4_findChoice 83 = .ok (.iload_n 1, 1) := by decide +kernel
theorem dX4_findChoice_84 : decode cX4_findChoice 84 = .ok (.aload_n 0, 1) := by decide +kernel
theorem dX4_findChoice_85 : decode cX4_findChoice 85 = .ok (.getfield 9, 3) := by decide +kernel
theorem dX4_findChoice_88 : decode cX4_findChoice 88 = .ok (.iload_n 3, 1) := by decide +kernel
theorem dX4_findChoice_89 : decode cX4_findChoice 89 = .ok (.iaload, 1) := by decide +kernel
theorem dX4_findChoice_90 : decode cX4_findChoice 90 = .ok (.aload_n 0, 1) := by decide +kernel
theorem dX4_findChoice_91 : decode cX4_findChoice 91 = .ok (.getfield 9, 3) := by decide +kernel
theorem dX4_findChoice_94 : decode cX4_findChoice 94 = .ok (.iload 4, 2) := by decide +kernel
theorem dX4_findChoice_96 : decode cX4_findChoice 96 = .ok (.iaload, 1) := by decide +kernel
theorem dX4_findChoice_97 : decode cX4_findChoice 97 = .ok (.invokestatic 98, 3) := by decide +kernel
theorem dX4_findChoice_100 : decode cX4_findChoice 100 = .ok (.i2l, 1) := by decide +kernel
theorem dX4_findChoice_101 : decode cX4_findChoice 101 = .ok (.aload_n 0, 1) := by decide +kernel
theorem dX4_findChoice_102 : decode cX4_findChoice 102 = .ok (.getfield 15, 3) := by decide +kernel
theorem dX4_findChoice_105 : decode cX4_findChoice 105 = .ok (.iload_n 3, 1) := by decide +kernel
theorem dX4_findChoice_106 : decode cX4_findChoice 106 = .ok (.iaload, 1) := by decide +kernel
theorem dX4_findChoice_107 : decode cX4_findChoice 107 = .ok (.aload_n 0, 1) := by decide +kernel
theorem dX4_findChoice_108 : decode cX4_findChoice 108 = .ok (.getfield 15, 3) := by decide +kernel
theorem dX4_findChoice_111 : decode cX4_findChoice 111 = .ok (.iload 4, 2) := by decide +kernel
theorem dX4_findChoice_113 : decode cX4_findChoice 113 = .ok (.iaload, 1) := by decide +kernel
theorem dX4_findChoice_114 : decode cX4_findChoice 114 = .ok (.invokestatic 59, 3) := by decide +kernel
theorem dX4_findChoice_117 : decode cX4_findChoice 117 = .ok (.i2l, 1) := by decide +kernel
theorem dX4_findChoice_118 : decode cX4_findChoice 118 = .ok (.invokevirtual 68, 3) := by decide +kernel
theorem dX4_findChoice_121 : decode cX4_findChoice 121 = .ok (.return_, 1) := by decide +kernel
theorem dX4_join_0 : decode cX4_join 0 = .ok (.aload_n 0, 1) := by decide +kernel
theorem dX4_join_1 : decode cX4_join 1 = .ok (.getfield 21, 3) := by decide +kernel
theorem dX4_join_4 : decode cX4_join 4 = .ok (.iconst 4, 1) := by decide +kernel
theorem dX4_join_5 : decode cX4_join 5 = .ok (.if_icmp .lt 7, 3) := by decide +kernel
theorem dX4_join_8 : decode cX4_join 8 = .ok (.iconst 1, 1) := by decide +kernel
theorem dX4_join_9 : decode cX4_join 9 = .ok (.goto 4, 3) := by decide +kernel
theorem dX4_join_12 : decode cX4_join 12 = .ok (.iconst 0, 1) := by decide +kernel
theorem dX4_join_13 : decode cX4_join 13 = .ok (.istore_n 3, 1) := by decide +kernel
theorem dX4_join_14 : decode cX4_join 14 = .ok (.aload_n 0, 1) := by decide +kernel
theorem dX4_join_15 : decode cX4_join 15 = .ok (.getfield 9, 3) := by decide +kernel
theorem dX4_join_18 : decode cX4_join 18 = .ok (.iload_n 2, 1) := by decide +kernel
theorem dX4_join_19 : decode cX4_join 19 = .ok (.iaload, 1) := by decide +kernel
theorem dX4_join_20 : decode cX4_join 20 = .ok (.istore 4, 2) := by decide +kernel
theorem dX4_join_22 : decode cX4_join 22 = .ok (.aload_n 0, 1) := by decide +kernel
theorem dX4_join_23 : decode cX4_join 23 = .ok (.getfield 15, 3) := by decide +kernel
theorem dX4_join_26 : decode cX4_join 26 = .ok (.iload_n 2, 1) := by decide +kernel
theorem dX4_join_27 : decode cX4_join 27 = .ok (.iaload, 1) := by decide +kernel
theorem dX4_join_28 : decode cX4_join 28 = .ok (.istore 5, 2) := by decide +kernel
theorem dX4_join_30 : decode cX4_join 30 = .ok (.iload 4, 2) := by decide +kernel
theorem dX4_join_32 : decode cX4_join 32 = .ok (.aload_n 0, 1) := by decide +kernel
theorem dX4_join_33 : decode cX4_join 33 = .ok (.getfield 9, 3) := by decide +kernel
theorem dX4_join_36 : decode cX4_join 36 = .ok (.iload_n 1, 1) := by decide +kernel
theorem dX4_join_37 : decode cX4_join 37 = .ok (.iaload, 1) := by decide +kernel
theorem dX4_join_38 : decode cX4_join 38 = .ok (.if_icmp .ge 7, 3) := by decide +kernel
theorem dX4_join_41 : decode cX4_join 41 = .ok (.iconst 1, 1) := by decide +kernel
theorem dX4_join_42 : decode cX4_join 42 = .ok (.goto 4, 3) := by decide +kernel
theorem dX4_join_45 : decode cX4_join 45 = .ok (.iconst 0, 1) := by decide +kernel
theorem dX4_join_46 : decode cX4_join 46 = .ok (.istore 6, 2) := by decide +kernel
theorem dX4_join_48 : decode cX4_join 48 = .ok (.iload 5, 2) := by decide +kernel
theorem dX4_join_50 : decode cX4_join 50 = .ok (.aload_n 0, 1) := by decide +kernel
theorem dX4_join_51 : decode cX4_join 51 = .ok (.getfield 15, 3) := by decide +kernel
theorem dX4_join_54 : decode cX4_join 54 = .ok (.iload_n 1, 1) := by decide +kernel
theorem dX4_join_55 : decode cX4_join 55 = .ok (.iaload, 1) := by decide +kernel
theorem dX4_join_56 : decode cX4_join 56 = .ok (.if_icmp .le 7, 3) := by decide +kernel
theorem dX4_join_59 : decode cX4_join 59 = .ok (.iconst 1, 1) := by decide +kernel
theorem dX4_join_60 : decode cX4_join 60 = .ok (.goto 4, 3) := by decide +kernel
theorem dX4_join_63 : decode cX4_join 63 = .ok (.iconst 0, 1) := by decide +kernel
theorem dX4_join_64 : decode cX4_join 64 = .ok (.istore 7, 2) := by decide +kernel
theorem dX4_join_66 : decode cX4_join 66 = .ok (.iload 6, 2) := by decide +kernel
theorem dX4_join_68 : decode cX4_join 68 = .ok (.ifCond .eq 23, 3) := by decide +kernel
theorem dX4_join_71 : decode cX4_join 71 = .ok (.aload_n 0, 1) := by decide +kernel
theorem dX4_join_72 : decode cX4_join 72 = .ok (.getfield 9, 3) := by decide +kernel
theorem dX4_join_75 : decode cX4_join 75 = .ok (.iload_n 1, 1) := by decide +kernel
theorem dX4_join_76 : decode cX4_join 76 = .ok (.iload_n 3, 1) := by decide +kernel
theorem dX4_join_77 : decode cX4_join 77 = .ok (.ifCond .eq 11, 3) := by decide +kernel
theorem dX4_join_80 : decode cX4_join 80 = .ok (.iload 4, 2) := by decide +kernel
theorem dX4_join_82 : decode cX4_join 82 = .ok (.invokestatic 103, 3) := by decide +kernel
theorem dX4_join_85 : decode cX4_join 85 = .ok (.goto 5, 3) := by decide +kernel
theorem dX4_join_88 : decode cX4_join 88 = .ok (.iload 4, 2) := by decide +kernel
theorem dX4_join_90 : decode cX4_join 90 = .ok (.iastore, 1) := by decide +kernel
theorem dX4_join_91 : decode cX4_join 91 = .ok (.iload 7, 2) := by decide +kernel
theorem dX4_join_93 : decode cX4_join 93 = .ok (.ifCond .eq 23, 3) := by decide +kernel
theorem dX4_join_96 : decode cX4_join 96 = .ok (.aload_n 0, 1) := by decide +kernel
theorem dX4_join_97 : decode cX4_join 97 = .ok (.getfield 15, 3) := by decide +kernel
theorem dX4_join_100 : decode cX4_join 100 = .ok (.iload_n 1, 1) := by decide +kernel
theorem dX4_join_101 : decode cX4_join 101 = .ok (.iload_n 3, 1) := by decide +kernel
theorem dX4_join_102 : decode cX4_join 102 = .ok (.ifCond .eq 11, 3) := by decide +kernel
theorem dX4_join_105 : decode cX4_join 105 = .ok (.iload 5, 2) := by decide +kernel
theorem dX4_join_107 : decode cX4_join 107 = .ok (.invokestatic 100, 3) := by decide +kernel
theorem dX4_join_110 : decode cX4_join 110 = .ok (.goto 5, 3) := by decide +kernel
theorem dX4_join_113 : decode cX4_join 113 = .ok (.iload 5, 2) := by decide +kernel
theorem dX4_join_115 : decode cX4_join 115 = .ok (.iastore, 1) := by decide +kernel
theorem dX4_join_116 : decode cX4_join 116 = .ok (.iload 6, 2) := by decide +kernel
theorem dX4_join_118 : decode cX4_join 118 = .ok (.ifCond .ne 8, 3) := by decide +kernel
theorem dX4_join_121 : decode cX4_join 121 = .ok (.iload 7, 2) := by decide +kernel
theorem dX4_join_123 : decode cX4_join 123 = .ok (.ifCond .eq 7, 3) := by decide +kernel
theorem dX4_join_126 : decode cX4_join 126 = .ok (.iconst 1, 1) := by decide +kernel
theorem dX4_join_127 : decode cX4_join 127 = .ok (.goto 4, 3) := by decide +kernel
theorem dX4_join_130 : decode cX4_join 130 = .ok (.iconst 0, 1) := by decide +kernel
theorem dX4_join_131 : decode cX4_join 131 = .ok (.ireturn, 1) := by decide +kernel
theorem dX4_onesNotBelow_0 : decode cX4_onesNotBelow 0 = .ok (.iload_n 0, 1) := by decide +kernel
theorem dX4_onesNotBelow_1 : decode cX4_onesNotBelow 1 = .ok (.ifCond .gt 7, 3) := by decide +kernel
theorem dX4_onesNotBelow_4 : decode cX4_onesNotBelow 4 = .ok (.iconst 0, 1) := by decide +kernel
theorem dX4_onesNotBelow_5 : decode cX4_onesNotBelow 5 = .ok (.goto 9, 3) := by decide +kernel
theorem dX4_onesNotBelow_8 : decode cX4_onesNotBelow 8 = .ok (.iconst (-1), 1) := by decide +kernel
theorem dX4_onesNotBelow_9 : decode cX4_onesNotBelow 9 = .ok (.iload_n 0, 1) := by decide +kernel
theorem dX4_onesNotBelow_10 : decode cX4_onesNotBelow 10 = .ok (.invokestatic 106, 3) := by decide +kernel
theorem dX4_onesNotBelow_13 : decode cX4_onesNotBelow 13 = .ok (.iushr, 1) := by decide +kernel
theorem dX4_onesNotBelow_14 : decode cX4_onesNotBelow 14 = .ok (.ireturn, 1) := by decide +kernel
theorem dX4_powerNotAbove_0 : decode cX4_powerNotAbove 0 = .ok (.iload_n 0, 1) := by decide +kernel
theorem dX4_powerNotAbove_1 : decode cX4_powerNotAbove 1 = .ok (.ifCond .lt 7, 3) := by decide +kernel
theorem dX4_powerNotAbove_4 : decode cX4_powerNotAbove 4 = .ok (.iconst 0, 1) := by decide +kernel
theorem dX4_powerNotAbove_5 : decode cX4_powerNotAbove 5 = .ok (.goto 11, 3) := by decide +kernel
theorem dX4_powerNotAbove_8 : decode cX4_powerNotAbove 8 = .ok (.iload_n 0, 1) := by decide +kernel
theorem dX4_powerNotAbove_9 : decode cX4_powerNotAbove 9 = .ok (.iconst (-1), 1) := by decide +kernel
theorem dX4_powerNotAbove_10 : decode cX4_powerNotAbove 10 = .ok (.ixor, 1) := by decide +kernel
theorem dX4_powerNotAbove_11 : decode cX4_powerNotAbove 11 = .ok (.invokestatic 100, 3) := by decide +kernel
theorem dX4_powerNotAbove_14 : decode cX4_powerNotAbove 14 = .ok (.iconst (-1), 1) := by decide +kernel
theorem dX4_powerNotAbove_15 : decode cX4_powerNotAbove 15 = .ok (.ixor, 1) := by decide +kernel
theorem dX4_powerNotAbove_16 : decode cX4_powerNotAbove 16 = .ok (.ireturn, 1) := by decide +kernel
theorem dX5_init_0 : decode cX5_init 0 = .ok (.aload_n 0, 1) := by decide +kernel
theorem dX5_init_1 : decode cX5_init 1 = .ok (.invokespecial 5, 3) := by decide +kernel
theorem dX5_init_4 : decode cX5_init 4 = .ok (.aload_n 0, 1) := by decide +kernel
theorem dX5_init_5 : decode cX5_init 5 = .ok (.iconst 0, 1) := by decide +kernel
theorem dX5_init_6 : decode cX5_init 6 = .ok (.putfield 11, 3) := by decide +kernel
theorem dX5_init_9 : decode cX5_init 9 = .ok (.aload_n 0, 1) := by decide +kernel
theorem dX5_init_10 : decode cX5_init 10 = .ok (.iconst 0, 1) := by decide +kernel
theorem dX5_init_11 : decode cX5_init 11 = .ok (.putfield 15, 3) := by decide +kernel
theorem dX5_init_14 : decode cX5_init 14 = .ok (.aload_n 0, 1) := by decide +kernel
theorem dX5_init_15 : decode cX5_init 15 = .ok (.iconst 0, 1) := by decide +kernel
theorem dX5_init_16 : decode cX5_init 16 = .ok (.putfield 18, 3) := by decide +kernel
theorem dX5_init_19 : decode cX5_init 19 = .ok (.aload_n 0, 1) := by decide +kernel
theorem dX5_init_20 : decode cX5_init 20 = .ok (.bipush 80, 2) := by decide +kernel
theorem dX5_init_22 : decode cX5_init 22 = .ok (.newarray .char, 2) := by decide +kernel
theorem dX5_init_24 : decode cX5_init 24 = .ok (.putfield 21, 3) := by decide +kernel
theorem dX5_init_27 : decode cX5_init 27 = .ok (.aload_n 0, 1) := by decide +kernel
theorem dX5_init_28 : decode cX5_init 28 = .ok (.bipush 27, 2) := by decide +kernel
theorem dX5_init_30 : decode cX5_init 30 = .ok (.anewarray 25, 3) := by decide +kernel
theorem dX5_init_33 : decode cX5_init 33 = .ok (.putfield 27, 3) := by decide +kernel
theorem dX5_init_36 : decode cX5_init 36 = .ok (.iconst 0, 1) := by decide +kernel
theorem dX5_init_37 : decode cX5_init 37 = .ok (.istore_n 1, 1) := by decide +kernel
theorem dX5_init_38 : decode cX5_init 38 = .ok (.iload_n 1, 1) := by decide +kernel
theorem dX5_init_39 : decode cX5_init 39 = .ok (.bipush 27, 2) := by decide +kernel
theorem dX5_init_41 : decode cX5_init 41 = .ok (.if_icmp .ge 22, 3) := by decide +kernel
theorem dX5_init_44 : decode cX5_init 44 = .ok (.aload_n 0, 1) := by decide +kernel
theorem dX5_init_45 : decode cX5_init 45 = .ok (.getfield 27, 3) := by decide +kernel
theorem dX5_init_48 : decode cX5_init 48 = .ok (.iload_n 1, 1) := by decide +kernel
theorem dX5_init_49 : decode cX5_init 49 = .ok (.new 25, 3) := by decide +kernel
theorem dX5_init_52 : decode cX5_init 52 = .ok (.dup, 1) := by decide +kernel
theorem dX5_init_53 : decode cX5_init 53 = .ok (.invokespecial 31, 3) := by decide +kernel
theorem dX5_init_56 : decode cX5_init 56 = .ok (.aastore, 1) := by decide +kernel
theorem dX5_init_57 : decode cX5_init 57 = .ok (.iinc 1 1, 3) := by decide +kernel
theorem dX5_init_60 : decode cX5_init 60 = .ok (.goto (-22), 3) := by decide +kernel
theorem dX5_init_63 : decode cX5_init 63 = .ok (.return_, 1) := by decide +kernel
theorem dX5_append_0 : decode cX5_append 0 = .ok (.aload_n 0, 1) := by decide +kernel
theorem dX5_append_1 : decode cX5_append 1 = .ok (.getfield 21, 3) := by decide +kernel
theorem dX5_append_4 : decode cX5_append 4 = .ok (.aload_n 0, 1) := by decide +kernel
theorem dX5_append_5 : decode cX5_append 5 = .ok (.getfield 11, 3) := by decide +kernel
theorem dX5_append_8 : decode cX5_append 8 = .ok (.iload_n 1, 1) := by decide +kernel
theorem dX5_append_9 : decode cX5_append 9 = .ok (.castore, 1) := by decide +kernel
theorem dX5_append_10 : decode cX5_append 10 = .ok (.aload_n 0, 1) := by decide +kernel
theorem dX5_append_11 : decode cX5_append 11 = .ok (.dup, 1) := by decide +kernel
theorem dX5_append_12 : decode cX5_append 12 = .ok (.getfield 11, 3) := by decide +kernel
theorem dX5_append_15 : decode cX5_append 15 = .ok (.iconst 1, 1) := by decide +kernel
theorem dX5_append_16 : decode cX5_append 16 = .ok (.iadd, 1) := by decide +kernel
theorem dX5_append_17 : decode cX5_append 17 = .ok (.putfield 11, 3) := by decide +kernel
theorem dX5_append_20 : decode cX5_append 20 = .ok (.aload_n 0, 1) := by decide +kernel
theorem dX5_append_21 : decode cX5_append 21 = .ok (.getfield 11, 3) := by decide +kernel
theorem dX5_append_24 : decode cX5_append 24 = .ok (.ireturn, 1) := by decide +kernel
theorem dX5_parse_0 : decode cX5_parse 0 = .ok (.aload_n 0, 1) := by decide +kernel
theorem dX5_parse_1 : decode cX5_parse 1 = .ok (.iconst 0, 1) := by decide +kernel
theorem dX5_parse_2 : decode cX5_parse 2 = .ok (.putfield 15, 3) := by decide +kernel
theorem dX5_parse_5 : decode cX5_parse 5 = .ok (.aload_n 0, 1) := by decide +kernel
theorem dX5_parse_6 : decode cX5_parse 6 = .ok (.iconst 0, 1) := by decide +kernel
theorem dX5_parse_7 : decode cX5_parse 7 = .ok (.putfield 18, 3) := by decide +kernel
theorem dX5_parse_10 : decode cX5_parse 10 = .ok (.aload_n 0, 1) := by decide +kernel
theorem dX5_parse_11 : decode cX5_parse 11 = .ok (.getfield 18, 3) := by decide +kernel
theorem dX5_parse_14 : decode cX5_parse 14 = .ok (.bipush 27, 2) := by decide +kernel
theorem dX5_parse_16 : decode cX5_parse 16 = .ok (.if_icmp .ge 72, 3) := by decide +kernel
theorem dX5_parse_19 : decode cX5_parse 19 = .ok (.aload_n 0, 1) := by decide +kernel
theorem dX5_parse_20 : decode cX5_parse 20 = .ok (.aload_n 0, 1) := by decide +kernel
theorem dX5_parse_21 : decode cX5_parse 21 = .ok (.getfield 27, 3) := by decide +kernel
theorem dX5_parse_24 : decode cX5_parse 24 = .ok (.aload_n 0, 1) := by decide +kernel
theorem dX5_parse_25 : decode cX5_parse 25 = .ok (.getfield 18, 3) := by decide +kernel
theorem dX5_parse_28 : decode cX5_parse 28 = .ok (.aaload, 1) := by decide +kernel
theorem dX5_parse_29 : decode cX5_parse 29 = .ok (.invokevirtual 32, 3) := by decide +kernel
theorem dX5_parse_32 : decode cX5_parse 32 = .ok (.ifCond .ne 5, 3) := by decide +kernel
theorem dX5_parse_35 : decode cX5_parse 35 = .ok (.iconst 0, 1) := by decide +kernel
theorem dX5_parse_36 : decode cX5_parse 36 = .ok (.ireturn, 1) := by decide +kernel
theorem dX5_parse_37 : decode cX5_parse 37 = .ok (.aload_n 0, 1) := by decide +kernel
theorem dX5_parse_38 : decode cX5_parse 38 = .ok (.getfield 15, 3) := by decide +kernel
theorem dX5_parse_41 : decode cX5_parse 41 = .ok (.aload_n 0, 1) := by decide +kernel
theorem dX5_parse_42 : decode cX5_parse 42 = .ok (.getfield 11, 3) := by decide +kernel
theorem dX5_parse_45 : decode cX5_parse 45 = .ok (.if_icmp .ne 7, 3) := by decide +kernel
theorem dX5_parse_48 : decode cX5_parse 48 = .ok (.iconst 1, 1) := by decide +kernel
theorem dX5_parse_49 : decode cX5_parse 49 = .ok (.goto 4, 3) := by decide +kernel
theorem dX5_parse_52 : decode cX5_parse 52 = .ok (.iconst 0, 1) := by decide +kernel
theorem dX5_parse_53 : decode cX5_parse 53 = .ok (.istore_n 1, 1) := by decide +kernel
theorem dX5_parse_54 : decode cX5_parse 54 = .ok (.iload_n 1, 1) := by decide +kernel
theorem dX5_parse_55 : decode cX5_parse 55 = .ok (.ifCond .ne 14, 3) := by decide +kernel
theorem dX5_parse_58 : decode cX5_parse 58 = .ok (.aload_n 0, 1) := by decide +kernel
theorem dX5_parse_59 : decode cX5_parse 59 = .ok (.bipush 59, 2) := by decide +kernel
theorem dX5_parse_61 : decode cX5_parse 61 = .ok (.invokevirtual 36, 3) := by decide +kernel
theorem dX5_parse_64 : decode cX5_parse 64 = .ok (.ifCond .ne 5, 3) := by decide +kernel
theorem dX5_parse_67 : decode cX5_parse 67 = .ok (.iconst 0, 1) := by decide +kernel
theorem dX5_parse_68 : decode cX5_parse 68 = .ok (.ireturn, 1) := by decide +kernel
theorem dX5_parse_69 : decode cX5_parse 69 = .ok (.aload_n 0, 1) := by decide +kernel
theorem dX5_parse_70 : decode cX5_parse 70 = .ok (.dup, 1) := by decide +kernel
theorem dX5_parse_71 : decode cX5_parse 71 = .ok (.getfield 18, 3) := by decide +kernel
theorem dX5_parse_74 : decode cX5_parse 74 = .ok (.iconst 1, 1) := by decide +kernel
theorem dX5_parse_75 : decode cX5_parse 75 = .ok (.iadd, 1) := by decide +kernel
theorem dX5_parse_76 : decode cX5_parse 76 = .ok (.putfield 18, 3) := by decide +kernel
theorem dX5_parse_79 : decode cX5_parse 79 = .ok (.iload_n 1, 1) := by decide +kernel
theorem dX5_parse_80 : decode cX5_parse 80 = .ok (.ifCond .eq 5, 3) := by decide +kernel
theorem dX5_parse_83 : decode cX5_parse 83 = .ok (.iconst 1, 1) := by decide +kernel
theorem dX5_parse_84 : decode cX5_parse 84 = .ok (.ireturn, 1) := by decide +kernel
theorem dX5_parse_85 : decode cX5_parse 85 = .ok (.goto (-75), 3) := by decide +kernel
theorem dX5_parse_88 : decode cX5_parse 88 = .ok (.iconst 0, 1) := by decide +kernel
theorem dX5_parse_89 : decode cX5_parse 89 = .ok (.ireturn, 1) := by decide +kernel
theorem dX5_peek_0 : decode cX5_peek 0 = .ok (.aload_n 0, 1) := by decide +kernel
theorem dX5_peek_1 : decode cX5_peek 1 = .ok (.getfield 15, 3) := by decide +kernel
theorem dX5_peek_4 : decode cX5_peek 4 = .ok (.aload_n 0, 1) := by decide +kernel
theorem dX5_peek_5 : decode cX5_peek 5 = .ok (.getfield 11, 3) := by decide +kernel
theorem dX5_peek_8 : decode cX5_peek 8 = .ok (.if_icmp .ge 15, 3) := by decide +kernel
theorem dX5_peek_11 : decode cX5_peek 11 = .ok (.aload_n 0, 1) := by decide +kernel
theorem dX5_peek_12 : decode cX5_peek 12 = .ok (.getfield 21, 3) := by decide +kernel
theorem dX5_peek_15 : decode cX5_peek 15 = .ok (.aload_n 0, 1) := by decide +kernel
theorem dX5_peek_16 : decode cX5_peek 16 = .ok (.getfield 15, 3) := by decide +kernel
theorem dX5_peek_19 : decode cX5_peek 19 = .ok (.caload, 1) := by decide +kernel
theorem dX5_peek_20 : decode cX5_peek 20 = .ok (.goto 4, 3) := by decide +kernel
theorem dX5_peek_23 : decode cX5_peek 23 = .ok (.iconst (-1), 1) := by decide +kernel
theorem dX5_peek_24 : decode cX5_peek 24 = .ok (.ireturn, 1) := by decide +kernel
theorem dX5_take_0 : decode cX5_take 0 = .ok (.aload_n 0, 1) := by decide +kernel
theorem dX5_take_1 : decode cX5_take 1 = .ok (.invokevirtual 40, 3) := by decide +kernel
theorem dX5_take_4 : decode cX5_take 4 = .ok (.iload_n 1, 1) := by decide +kernel
theorem dX5_take_5 : decode cX5_take 5 = .ok (.if_icmp .eq 5, 3) := by decide +kernel
theorem dX5_take_8 : decode cX5_take 8 = .ok (.iconst 0, 1) := by decide +kernel
theorem dX5_take_9 : decode cX5_take 9 = .ok (.ireturn, 1) := by decide +kernel
theorem dX5_take_10 : decode cX5_take 10 = .ok (.aload_n 0, 1) := by decide +kernel
theorem dX5_take_11 : decode cX5_take 11 = .ok (.dup, 1) := by decide +kernel
theorem dX5_take_12 : decode cX5_take 12 = .ok (.getfield 15, 3) := by decide +kernel
theorem dX5_take_15 : decode cX5_take 15 = .ok (.iconst 1, 1) := by decide +kernel
theorem dX5_take_16 : decode cX5_take 16 = .ok (.iadd, 1) := by decide +kernel
theorem dX5_take_17 : decode cX5_take 17 = .ok (.putfield 15, 3) := by decide +kernel
theorem dX5_take_20 : decode cX5_take 20 = .ok (.iconst 1, 1) := by decide +kernel
theorem dX5_take_21 : decode cX5_take 21 = .ok (.ireturn, 1) := by decide +kernel
theorem dX5_parseItem_0 : decode cX5_parseItem 0 = .ok (.aload_n 0, 1) := by decide +kernel
theorem dX5_parseItem_1 : decode cX5_parseItem 1 = .ok (.bipush 105, 2) := by decide +kernel
theorem dX5_parseItem_3 : decode cX5_parseItem 3 = .ok (.invokevirtual 36, 3) := by decide +kernel
theorem dX5_parseItem_6 : decode cX5_parseItem 6 = .ok (.ifCond .eq 44, 3) := by decide +kernel
theorem dX5_parseItem_9 : decode cX5_parseItem 9 = .ok (.aload_n 1, 1) := by decide +kernel
theorem dX5_parseItem_10 : decode cX5_parseItem 10 = .ok (.iconst 0, 1) := by decide +kernel
theorem dX5_parseItem_11 : decode cX5_parseItem 11 = .ok (.iconst 0, 1) := by decide +kernel
theorem dX5_parseItem_12 : decode cX5_parseItem 12 = .ok (.iconst 0, 1) := by decide +kernel
theorem dX5_parseItem_13 : decode cX5_parseItem 13 = .ok (.iconst 0, 1) := by decide +kernel
theorem dX5_parseItem_14 : decode cX5_parseItem 14 = .ok (.invokevirtual 44, 3) := by decide +kernel
theorem dX5_parseItem_17 : decode cX5_parseItem 17 = .ok (.aload_n 0, 1) := by decide +kernel
theorem dX5_parseItem_18 : decode cX5_parseItem 18 = .ok (.aload_n 1, 1) := by decide +kernel
theorem dX5_parseItem_19 : decode cX5_parseItem 19 = .ok (.iconst 0, 1) := by decide +kernel
theorem dX5_parseItem_20 : decode cX5_parseItem 20 = .ok (.invokevirtual 48, 3) := by decide +kernel
theorem dX5_parseItem_23 : decode cX5_parseItem 23 = .ok (.ifCond .eq 25, 3) := by decide +kernel
theorem dX5_parseItem_26 : decode cX5_parseItem 26 = .ok (.aload_n 0, 1) := by decide +kernel
theorem dX5_parseItem_27 : decode cX5_parseItem 27 = .ok (.bipush 58, 2) := by decide +kernel
theorem dX5_parseItem_29 : decode cX5_parseItem 29 = .ok (.invokevirtual 36, 3) := by decide +kernel
theorem dX5_parseItem_32 : decode cX5_parseItem 32 = .ok (.ifCond .eq 16, 3) := by decide +kernel
theorem dX5_parseItem_35 : decode cX5_parseItem 35 = .ok (.aload_n 0, 1) := by decide +kernel
theorem dX5_parseItem_36 : decode cX5_parseItem 36 = .ok (.aload_n 1, 1) := by decide +kernel
theorem dX5_parseItem_37 : decode cX5_parseItem 37 = .ok (.iconst 1, 1) := by decide +kernel
theorem dX5_parseItem_38 : decode cX5_parseItem 38 = .ok (.invokevirtual 48, 3) := by decide +kernel
theorem dX5_parseItem_41 : decode cX5_parseItem 41 = .ok (.ifCond .eq 7, 3) := by decide +kernel
theorem dX5_parseItem_44 : decode cX5_parseItem 44 = .ok (.iconst 1, 1) := by decide +kernel
theorem dX5_parseItem_45 : decode cX5_parseItem 45 = .ok (.goto 4, 3) := by decide +kernel
theorem dX5_parseItem_48 : decode cX5_parseItem 48 = .ok (.iconst 0, 1) := by decide +kernel
theorem dX5_parseItem_49 : decode cX5_parseItem 49 = .ok (.ireturn, 1) := by decide +kernel
theorem dX5_parseItem_50 : decode cX5_parseItem 50 = .ok (.aload_n 0, 1) := by decide +kernel
theorem dX5_parseItem_51 : decode cX5_parseItem 51 = .ok (.bipush 107, 2) := by decide +kernel
theorem dX5_parseItem_53 : decode cX5_parseItem 53 = .ok (.invokevirtual 36, 3) := by decide +kernel
theorem dX5_parseItem_56 : decode cX5_parseItem 56 = .ok (.ifCond .eq 18, 3) := by decide +kernel
theorem dX5_parseItem_59 : decode cX5_parseItem 59 = .ok (.aload_n 1, 1) := by decide +kernel
theorem dX5_parseItem_60 : decode cX5_parseItem 60 = .ok (.iconst 1, 1) := by decide +kernel
theorem dX5_parseItem_61 : decode cX5_parseItem 61 = .ok (.iconst 0, 1) := by decide +kernel
theorem dX5_parseItem_62 : decode cX5_parseItem 62 = .ok (.iconst 0, 1) := by decide +kernel
theorem dX5_parseItem_63 : decode cX5_parseItem 63 = .ok (.iconst 0, 1) := by decide +kernel
theorem dX5_parseItem_64 : decode cX5_parseItem 64 = .ok (.invokevirtual 44, 3) := by decide +kernel
theorem dX5_parseItem_67 : decode cX5_parseItem 67 = .ok (.aload_n 0, 1) := by decide +kernel
theorem dX5_parseItem_68 : decode cX5_parseItem 68 = .ok (.aload_n 1, 1) := by decide +kernel
theorem dX5_parseItem_69 : decode cX5_parseItem 69 = .ok (.iconst 0, 1) := by decide +kernel
theorem dX5_parseItem_70 : decode cX5_parseItem 70 = .ok (.invokevirtual 48, 3) := by decide +kernel
theorem dX5_parseItem_73 : decode cX5_parseItem 73 = .ok (.ireturn, 1) := by decide +kernel
theorem dX5_parseItem_74 : decode cX5_parseItem 74 = .ok (.aload_n 0, 1) := by decide +kernel
theorem dX5_parseItem_75 : decode cX5_parseItem 75 = .ok (.bipush 114, 2) := by decide +kernel
theorem dX5_parseItem_77 : decode cX5_parseItem 77 = .ok (.invokevirtual 36, 3) := by decide +kernel
theorem dX5_parseItem_80 : decode cX5_parseItem 80 = .ok (.ifCond .eq 18, 3) := by decide +kernel
theorem dX5_parseItem_83 : decode cX5_parseItem 83 = .ok (.aload_n 1, 1) := by decide +kernel
theorem dX5_parseItem_84 : decode cX5_parseItem 84 = .ok (.iconst 2, 1) := by decide +kernel
theorem dX5_parseItem_85 : decode cX5_parseItem 85 = .ok (.iconst 0, 1) := by decide +kernel
theorem dX5_parseItem_86 : decode cX5_parseItem 86 = .ok (.iconst 0, 1) := by decide +kernel
theorem dX5_parseItem_87 : decode cX5_parseItem 87 = .ok (.iconst 0, 1) := by decide +kernel
theorem dX5_parseItem_88 : decode cX5_parseItem 88 = .ok (.invokevirtual 44, 3) := by decide +kernel
theorem dX5_parseItem_91 : decode cX5_parseItem 91 = .ok (.aload_n 0, 1) := by decide +kernel
theorem dX5_parseItem_92 : decode cX5_parseItem 92 = .ok (.aload_n 1, 1) := by decide +kernel
theorem dX5_parseItem_93 : decode cX5_parseItem 93 = .ok (.iconst 0, 1) := by decide +kernel
theorem dX5_parseItem_94 : decode cX5_parseItem 94 = .ok (.invokevirtual 48, 3) := by decide +kernel
theorem dX5_parseItem_97 : decode cX5_parseItem 97 = .ok (.ireturn, 1) := by decide +kernel
theorem dX5_parseItem_98 : decode cX5_parseItem 98 = .ok (.aload_n 0, 1) := by decide +kernel
theorem dX5_parseItem_99 : decode cX5_parseItem 99 = .ok (.bipush 110, 2) := by decide +kernel
theorem dX5_parseItem_101 : decode cX5_parseItem 101 = .ok (.invokevirtual 36, 3) := by decide +kernel
theorem dX5_parseItem_104 : decode cX5_parseItem 104 = .ok (.ifCond .eq 45, 3) := by decide +kernel
theorem dX5_parseItem_107 : decode cX5_parseItem 107 = .ok (.aload_n 1, 1) := by decide +kernel
theorem dX5_parseItem_108 : decode cX5_parseItem 108 = .ok (.bipush 13, 2) := by decide +kernel
theorem dX5_parseItem_110 : decode cX5_parseItem 110 = .ok (.iconst 0, 1) := by decide +kernel
theorem dX5_parseItem_111 : decode cX5_parseItem 111 = .ok (.iconst 0, 1) := by decide +kernel
theorem dX5_parseItem_112 : decode cX5_parseItem 112 = .ok (.iconst 0, 1) := by decide +kernel
theorem dX5_parseItem_113 : decode cX5_parseItem 113 = .ok (.invokevirtual 44, 3) := by decide +kernel
theorem dX5_parseItem_116 : decode cX5_parseItem 116 = .ok (.aload_n 0, 1) := by decide +kernel
theorem dX5_parseItem_117 : decode cX5_parseItem 117 = .ok (.aload_n 1, 1) := by decide +kernel
theorem dX5_parseItem_118 : decode cX5_parseItem 118 = .ok (.iconst 0, 1) := by decide +kernel
theorem dX5_parseItem_119 : decode cX5_parseItem 119 = .ok (.invokevirtual 52, 3) := by decide +kernel
theorem dX5_parseItem_122 : decode cX5_parseItem 122 = .ok (.ifCond .eq 25, 3) := by decide +kernel
theorem dX5_parseItem_125 : decode cX5_parseItem 125 = .ok (.aload_n 0, 1) := by decide +kernel
theorem dX5_parseItem_126 : decode cX5_parseItem 126 = .ok (.bipush 58, 2) := by decide +kernel
theorem dX5_parseItem_128 : decode cX5_parseItem 128 = .ok (.invokevirtual 36, 3) := by decide +kernel
theorem dX5_parseItem_131 : decode cX5_parseItem 131 = .ok (.ifCond .eq 16, 3) := by decide +kernel
theorem dX5_parseItem_134 : decode cX5_parseItem 134 = .ok (.aload_n 0, 1) := by decide +kernel
theorem dX5_parseItem_135 : decode cX5_parseItem 135 = .ok (.aload_n 1, 1) := by decide +kernel
theorem dX5_parseItem_136 : decode cX5_parseItem 136 = .ok (.iconst 1, 1) := by decide +kernel
theorem dX5_parseItem_137 : decode cX5_parseItem 137 = .ok (.invokevirtual 52, 3) := by decide +kernel
theorem dX5_parseItem_140 : decode cX5_parseItem 140 = .ok (.ifCond .eq 7, 3) := by decide +kernel
theorem dX5_parseItem_143 : decode cX5_parseItem 143 = .ok (.iconst 1, 1) := by decide +kernel
theorem dX5_parseItem_144 : decode cX5_parseItem 144 = .ok (.goto 4, 3) := by decide +kernel
theorem dX5_parseItem_147 : decode cX5_parseItem 147 = .ok (.iconst 0, 1) := by decide +kernel
theorem dX5_parseItem_148 : decode cX5_parseItem 148 = .ok (.ireturn, 1) := by decide +kernel
theorem dX5_parseItem_149 : decode cX5_parseItem 149 = .ok (.aload_n 0, 1) := by decide +kernel
theorem dX5_parseItem_150 : decode cX5_parseItem 150 = .ok (.bipush 111, 2) := by decide +kernel
theorem dX5_parseItem_152 : decode cX5_parseItem 152 = .ok (.invokevirtual 36, 3) := by decide +kernel
theorem dX5_parseItem_155 : decode cX5_parseItem 155 = .ok (.ifCond .eq 19, 3) := by decide +kernel
theorem dX5_parseItem_158 : decode cX5_parseItem 158 = .ok (.aload_n 1, 1) := by decide +kernel
theorem dX5_parseItem_159 : decode cX5_parseItem 159 = .ok (.bipush 14, 2) := by decide +kernel
theorem dX5_parseItem_161 : decode cX5_parseItem 161 = .ok (.iconst 0, 1) := by decide +kernel
theorem dX5_parseItem_162 : decode cX5_parseItem 162 = .ok (.iconst 0, 1) := by decide +kernel
theorem dX5_parseItem_163 : decode cX5_parseItem 163 = .ok (.iconst 0, 1) := by decide +kernel
theorem dX5_parseItem_164 : decode cX5_parseItem 164 = .ok (.invokevirtual 44, 3) := by decide +kernel
theorem dX5_parseItem_167 : decode cX5_parseItem 167 = .ok (.aload_n 0, 1) := by decide +kernel
theorem dX5_parseItem_168 : decode cX5_parseItem 168 = .ok (.aload_n 1, 1) := by decide +kernel
theorem dX5_parseItem_169 : decode cX5_parseItem 169 = .ok (.iconst 0, 1) := by decide +kernel
theorem dX5_parseItem_170 : decode cX5_parseItem 170 = .ok (.invokevirtual 52, 3) := by decide +kernel
theorem dX5_parseItem_173 : decode cX5_parseItem 173 = .ok (.ireturn, 1) := by decide +kernel
theorem dX5_parseItem_174 : decode cX5_parseItem 174 = .ok (.aload_n 1, 1) := by decide +kernel
theorem dX5_parseItem_175 : decode cX5_parseItem 175 = .ok (.iconst 3, 1) := by decide +kernel
theorem dX5_parseItem_176 : decode cX5_parseItem 176 = .ok (.iconst 0, 1) := by decide +kernel
theorem dX5_parseItem_177 : decode cX5_parseItem 177 = .ok (.iconst 0, 1) := by decide +kernel
theorem dX5_parseItem_178 : decode cX5_parseItem 178 = .ok (.iconst 0, 1) := by decide +kernel
theorem dX5_parseItem_179 : decode cX5_parseItem 179 = .ok (.invokevirtual 44, 3) := by decide +kernel
theorem dX5_parseItem_182 : decode cX5_parseItem 182 = .ok (.aload_n 0, 1) := by decide +kernel
theorem dX5_parseItem_183 : decode cX5_parseItem 183 = .ok (.aload_n 1, 1) := by decide +kernel
theorem dX5_parseItem_184 : decode cX5_parseItem 184 = .ok (.iconst 0, 1) := by decide +kernel
theorem dX5_parseItem_185 : decode cX5_parseItem 185 = .ok (.invokevirtual 52, 3) := by decide +kernel
theorem dX5_parseItem_188 : decode cX5_parseItem 188 = .ok (.ifCond .eq 15, 3) := by decide +kernel
theorem dX5_parseItem_191 : decode cX5_parseItem 191 = .ok (.aload_n 0, 1) := by decide +kernel
theorem dX5_parseItem_192 : decode cX5_parseItem 192 = .ok (.aload_n 1, 1) := by decide +kernel
theorem dX5_parseItem_193 : decode cX5_parseItem 193 = .ok (.invokevirtual 55, 3) := by decide +kernel
theorem dX5_parseItem_196 : decode cX5_parseItem 196 = .ok (.ifCond .eq 7, 3) := by decide +kernel
theorem dX5_parseItem_199 : decode cX5_parseItem 199 = .ok (.iconst 1, 1) := by decide +kernel
theorem dX5_parseItem_200 : decode cX5_parseItem 200 = .ok (.goto 4, 3) := by decide +kernel
theorem dX5_parseItem_203 : decode cX5_parseItem 203 = .ok (.iconst 0, 1) := by decide +kernel
theorem dX5_parseItem_204 : decode cX5_parseItem 204 = .ok (.ireturn, 1) := by decide +kernel
theorem dX5_parseOperation_0 : decode cX5_parseOperation 0 = .ok (.aload_n 0, 1) := by decide +kernel
theorem dX5_parseOperation_1 : decode cX5_parseOperation 1 = .ok (.invokevirtual 40, 3) := by decide +kernel
theorem dX5_parseOperation_4 : decode cX5_parseOperation 4 = .ok (.invokestatic 58, 3) := by decide +kernel
theorem dX5_parseOperation_7 : decode cX5_parseOperation 7 = .ok (.istore_n 2, 1) := by decide +kernel
theorem dX5_parseOperation_8 : decode cX5_parseOperation 8 = .ok (.iload_n 2, 1) := by decide +kernel
theorem dX5_parseOperation_9 : decode cX5_parseOperation 9 = .ok (.iconst (-1), 1) := by decide +kernel
theorem dX5_parseOperation_10 : decode cX5_parseOperation 10 = .ok (.if_icmp .ne 5, 3) := by decide +kernel
theorem dX5_parseOperation_13 : decode cX5_parseOperation 13 = .ok (.iconst 0, 1) := by decide +kernel
theorem dX5_parseOperation_14 : decode cX5_parseOperation 14 = .ok (.ireturn, 1) := by decide +kernel
theorem dX5_parseOperation_15 : decode cX5_parseOperation 15 = .ok (.aload_n 0, 1) := by decide +kernel
theorem dX5_parseOperation_16 : decode cX5_parseOperation 16 = .ok (.dup, 1) := by decide +kernel
theorem dX5_parseOperation_17 : decode cX5_parseOperation 17 = .ok (.getfield 15, 3) := by decide +kernel
theorem dX5_parseOperation_20 : decode cX5_parseOperation 20 = .ok (.iconst 1, 1) := by decide +kernel
theorem dX5_parseOperation_21 : decode cX5_parseOperation 21 = .ok (.iadd, 1) := by decide +kernel
theorem dX5_parseOperation_22 : decode cX5_parseOperation 22 = .ok (.putfield 15, 3) := by decide +kernel
theorem dX5_parseOperation_25 : decode cX5_parseOperation 25 = .ok (.aload_n 1, 1) := by decide +kernel
theorem dX5_parseOperation_26 : decode cX5_parseOperation 26 = .ok (.iload_n 2, 1) := by decide +kernel
theorem dX5_parseOperation_27 : decode cX5_parseOperation 27 = .ok (.aload_n 1, 1) := by decide +kernel
theorem dX5_parseOperation_28 : decode cX5_parseOperation 28 = .ok (.getfield 62, 3) := by decide +kernel
theorem dX5_parseOperation_31 : decode cX5_parseOperation 31 = .ok (.iconst 0, 1) := by decide +kernel
theorem dX5_parseOperation_32 : decode cX5_parseOperation 32 = .ok (.iaload, 1) := by decide +kernel
theorem dX5_parseOperation_33 : decode cX5_parseOperation 33 = .ok (.iconst 0, 1) := by decide +kernel
theorem dX5_parseOperation_34 : decode cX5_parseOperation 34 = .ok (.iconst 0, 1) := by decide +kernel
theorem dX5_parseOperation_35 : decode cX5_parseOperation 35 = .ok (.invokevirtual 44, 3) := by decide +kernel
theorem dX5_parseOperation_38 : decode cX5_parseOperation 38 = .ok (.aload_n 0, 1) := by decide +kernel
theorem dX5_parseOperation_39 : decode cX5_parseOperation 39 = .ok (.aload_n 1, 1) := by decide +kernel
theorem dX5_parseOperation_40 : decode cX5_parseOperation 40 = .ok (.iconst 1, 1) := by decide +kernel
theorem dX5_parseOperation_41 : decode cX5_parseOperation 41 = .ok (.invokevirtual 52, 3) := by decide +kernel
theorem dX5_parseOperation_44 : decode cX5_parseOperation 44 = .ok (.ifCond .ne 5, 3) := by decide +kernel
theorem dX5_parseOperation_47 : decode cX5_parseOperation 47 = .ok (.iconst 0, 1) := by decide +kernel
theorem dX5_parseOperation_48 : decode cX5_parseOperation 48 = .ok (.ireturn, 1) := by decide +kernel
theorem dX5_parseOperation_49 : decode cX5_parseOperation 49 = .ok (.iload_n 2, 1) := by decide +kernel
theorem dX5_parseOperation_50 : decode cX5_parseOperation 50 = .ok (.bipush 12, 2) := by decide +kernel
theorem dX5_parseOperation_52 : decode cX5_parseOperation 52 = .ok (.if_icmp .ne 21, 3) := by decide +kernel
theorem dX5_parseOperation_55 : decode cX5_parseOperation 55 = .ok (.aload_n 0, 1) := by decide +kernel
theorem dX5_parseOperation_56 : decode cX5_parseOperation 56 = .ok (.bipush 58, 2) := by decide +kernel
theorem dX5_parseOperation_58 : decode cX5_parseOperation 58 = .ok (.invokevirtual 36, 3) := by decide +kernel
theorem dX5_parseOperation_61 : decode cX5_parseOperation 61 = .ok (.ifCond .eq 16, 3) := by decide +kernel
theorem dX5_parseOperation_64 : decode cX5_parseOperation 64 = .ok (.aload_n 0, 1) := by decide +kernel
theorem dX5_parseOperation_65 : decode cX5_parseOperation 65 = .ok (.aload_n 1, 1) := by decide +kernel
theorem dX5_parseOperation_66 : decode cX5_parseOperation 66 = .ok (.iconst 2, 1) := by decide +kernel
theorem dX5_parseOperation_67 : decode cX5_parseOperation 67 = .ok (.invokevirtual 52, 3) := by decide +kernel
theorem dX5_parseOperation_70 : decode cX5_parseOperation 70 = .ok (.ifCond .eq 7, 3) := by decide +kernel
theorem dX5_parseOperation_73 : decode cX5_parseOperation 73 = .ok (.iconst 1, 1) := by decide +kernel
theorem dX5_parseOperation_74 : decode cX5_parseOperation 74 = .ok (.goto 4, 3) := by decide +kernel
theorem dX5_parseOperation_77 : decode cX5_parseOperation 77 = .ok (.iconst 0, 1) := by decide +kernel
theorem dX5_parseOperation_78 : decode cX5_parseOperation 78 = .ok (.ireturn, 1) := by decide +kernel
theorem dX5_kindOf_0 : decode cX5_kindOf 0 = .ok (.iload_n 0, 1) := by decide +kernel
theorem dX5_kindOf_1 : decode cX5_kindOf 1 = .ok (.lookupswitch 118 #[(38, 97), (42, 95), (43, 91), (45, 93), (60, 112), (63, 115), (94, 103), (104, 109), (108, 106), (124, 100)], 91) := by decide +kernel
theorem dX5_kindOf_92 : decode cX5_kindOf 92 = .ok (.iconst 3, 1) := by decide +kernel
theorem dX5_kindOf_93 : decode cX5_kindOf 93 = .ok (.ireturn, 1) := by decide +kernel
theorem dX5_kindOf_94 : decode cX5_kindOf 94 = .ok (.iconst 4, 1) := by decide +kernel
theorem dX5_kindOf_95 : decode cX5_kindOf 95 = .ok (.ireturn, 1) := by decide +kernel
theorem dX5_kindOf_96 : decode cX5_kindOf 96 = .ok (.iconst 5, 1) := by decide +kernel
theorem dX5_kindOf_97 : decode cX5_kindOf 97 = .ok (.ireturn, 1) := by decide +kernel
theorem dX5_kindOf_98 : decode cX5_kindOf 98 = .ok (.bipush 6, 2) := by decide +kernel
theorem dX5_kindOf_100 : decode cX5_kindOf 100 = .ok (.ireturn, 1) := by decide +kernel
theorem dX5_kindOf_101 : decode cX5_kindOf 101 = .ok (.bipush 7, 2) := by decide +kernel
theorem dX5_kindOf_103 : decode cX5_kindOf 103 = .ok (.ireturn, 1) := by decide +kernel
theorem dX5_kindOf_104 : decode cX5_kindOf 104 = .ok (.bipush 8, 2) := by decide +kernel
theorem dX5_kindOf_106 : decode cX5_kindOf 106 = .ok (.ireturn, 1) := by decide +kernel
theorem dX5_kindOf_107 : decode cX5_kindOf 107 = .ok (.bipush 9, 2) := by decide +kernel
theorem dX5_kindOf_109 : decode cX5_kindOf 109 = .ok (.ireturn, 1) := by decide +kernel
theorem dX5_kindOf_110 : decode cX5_kindOf 110 = .ok (.bipush 10, 2) := by decide +kernel
theorem dX5_kindOf_112 : decode cX5_kindOf 112 = .ok (.ireturn, 1) := by decide +kernel
theorem dX5_kindOf_113 : decode cX5_kindOf 113 = .ok (.bipush 11, 2) := by decide +kernel
theorem dX5_kindOf_115 : decode cX5_kindOf 115 = .ok (.ireturn, 1) := by decide +kernel
theorem dX5_kindOf_116 : decode cX5_kindOf 116 = .ok (.bipush 12, 2) := by decide +kernel
theorem dX5_kindOf_118 : decode cX5_kindOf 118 = .ok (.ireturn, 1) := by decide +kernel
theorem dX5_kindOf_119 : decode cX5_kindOf 119 = .ok (.iconst (-1), 1) := by decide +kernel
theorem dX5_kindOf_120 : decode cX5_kindOf 120 = .ok (.ireturn, 1) := by decide +kernel
theorem dX5_parseNumber_0 : decode cX5_parseNumber 0 = .ok (.aload_n 0, 1) := by decide +kernel
theorem dX5_parseNumber_1 : decode cX5_parseNumber 1 = .ok (.bipush 45, 2) := by decide +kernel
theorem dX5_parseNumber_3 : decode cX5_parseNumber 3 = .ok (.invokevirtual 36, 3) := by decide +kernel
theorem dX5_parseNumber_6 : decode cX5_parseNumber 6 = .ok (.istore_n 3, 1) := by decide +kernel
theorem dX5_parseNumber_7 : decode cX5_parseNumber 7 = .ok (.aload_n 0, 1) := by decide +kernel
theorem dX5_parseNumber_8 : decode cX5_parseNumber 8 = .ok (.aload_n 1, 1) := by decide +kernel
theorem dX5_parseNumber_9 : decode cX5_parseNumber 9 = .ok (.iload_n 2, 1) := by decide +kernel
theorem dX5_parseNumber_10 : decode cX5_parseNumber 10 = .ok (.iconst 4, 1) := by decide +kernel
theorem dX5_parseNumber_11 : decode cX5_parseNumber 11 = .ok (.invokevirtual 66, 3) := by decide +kernel
theorem dX5_parseNumber_14 : decode cX5_parseNumber 14 = .ok (.istore 4, 2) := by decide +kernel
theorem dX5_parseNumber_16 : decode cX5_parseNumber 16 = .ok (.iload_n 3, 1) := by decide +kernel
theorem dX5_parseNumber_17 : decode cX5_parseNumber 17 = .ok (.ifCond .eq 16, 3) := by decide +kernel
theorem dX5_parseNumber_20 : decode cX5_parseNumber 20 = .ok (.aload_n 1, 1) := by decide +kernel
theorem dX5_parseNumber_21 : decode cX5_parseNumber 21 = .ok (.getfield 62, 3) := by decide +kernel
theorem dX5_parseNumber_24 : decode cX5_parseNumber 24 = .ok (.iload_n 2, 1) := by decide +kernel
theorem dX5_parseNumber_25 : decode cX5_parseNumber 25 = .ok (.aload_n 1, 1) := by decide +kernel
theorem dX5_parseNumber_26 : decode cX5_parseNumber 26 = .ok (.getfield 62, 3) := by decide +kernel
theorem dX5_parseNumber_29 : decode cX5_parseNumber 29 = .ok (.iload_n 2, 1) := by decide +kernel
theorem dX5_parseNumber_30 : decode cX5_parseNumber 30 = .ok (.iaload, 1) := by decide +kernel
theorem dX5_parseNumber_31 : decode cX5_parseNumber 31 = .ok (.ineg, 1) := by decide +kernel
theorem dX5_parseNumber_32 : decode cX5_parseNumber 32 = .ok (.iastore, 1) := by decide +kernel
theorem dX5_parseNumber_33 : decode cX5_parseNumber 33 = .ok (.iload 4, 2) := by decide +kernel
theorem dX5_parseNumber_35 : decode cX5_parseNumber 35 = .ok (.ireturn, 1) := by decide +kernel
theorem dX5_parseSignal_0 : decode cX5_parseSignal 0 = .ok (.aload_n 0, 1) := by decide +kernel
theorem dX5_parseSignal_1 : decode cX5_parseSignal 1 = .ok (.aload_n 1, 1) := by decide +kernel
theorem dX5_parseSignal_2 : decode cX5_parseSignal 2 = .ok (.iload_n 2, 1) := by decide +kernel
theorem dX5_parseSignal_3 : decode cX5_parseSignal 3 = .ok (.iconst 2, 1) := by decide +kernel
theorem dX5_parseSignal_4 : decode cX5_parseSignal 4 = .ok (.invokevirtual 66, 3) := by decide +kernel
theorem dX5_parseSignal_7 : decode cX5_parseSignal 7 = .ok (.ireturn, 1) := by decide +kernel
theorem dX5_parseDigits_0 : decode cX5_parseDigits 0 = .ok (.iconst 0, 1) := by decide +kernel
theorem dX5_parseDigits_1 : decode cX5_parseDigits 1 = .ok (.istore 4, 2) := by decide +kernel
theorem dX5_parseDigits_3 : decode cX5_parseDigits 3 = .ok (.iconst 0, 1) := by decide +kernel
theorem dX5_parseDigits_4 : decode cX5_parseDigits 4 = .ok (.istore 5, 2) := by decide +kernel
theorem dX5_parseDigits_6 : decode cX5_parseDigits 6 = .ok (.iload 5, 2) := by decide +kernel
theorem dX5_parseDigits_8 : decode cX5_parseDigits 8 = .ok (.iload_n 3, 1) := by decide +kernel
theorem dX5_parseDigits_9 : decode cX5_parseDigits 9 = .ok (.if_icmp .ge 44, 3) := by decide +kernel
theorem dX5_parseDigits_12 : decode cX5_parseDigits 12 = .ok (.aload_n 0, 1) := by decide +kernel
theorem dX5_parseDigits_13 : decode cX5_parseDigits 13 = .ok (.invokevirtual 40, 3) := by decide +kernel
theorem dX5_parseDigits_16 : decode cX5_parseDigits 16 = .ok (.invokestatic 70, 3) := by decide +kernel
theorem dX5_parseDigits_19 : decode cX5_parseDigits 19 = .ok (.ifCond .eq 34, 3) := by decide +kernel
theorem dX5_parseDigits_22 : decode cX5_parseDigits 22 = .ok (.bipush 10, 2) := by decide +kernel
theorem dX5_parseDigits_24 : decode cX5_parseDigits 24 = .ok (.iload 4, 2) := by decide +kernel
theorem dX5_parseDigits_26 : decode cX5_parseDigits 26 = .ok (.imul, 1) := by decide +kernel
theorem dX5_parseDigits_27 : decode cX5_parseDigits 27 = .ok (.aload_n 0, 1) := by decide +kernel
theorem dX5_parseDigits_28 : decode cX5_parseDigits 28 = .ok (.invokevirtual 40, 3) := by decide +kernel
theorem dX5_parseDigits_31 : decode cX5_parseDigits 31 = .ok (.bipush 48, 2) := by decide +kernel
theorem dX5_parseDigits_33 : decode cX5_parseDigits 33 = .ok (.isub, 1) := by decide +kernel
theorem dX5_parseDigits_34 : decode cX5_parseDigits 34 = .ok (.iadd, 1) := by decide +kernel
theorem dX5_parseDigits_35 : decode cX5_parseDigits 35 = .ok (.istore 4, 2) := by decide +kernel
theorem dX5_parseDigits_37 : decode cX5_parseDigits 37 = .ok (.aload_n 0, 1) := by decide +kernel
theorem dX5_parseDigits_38 : decode cX5_parseDigits 38 = .ok (.dup, 1) := by decide +kernel
theorem dX5_parseDigits_39 : decode cX5_parseDigits 39 = .ok (.getfield 15, 3) := by decide +kernel
theorem dX5_parseDigits_42 : decode cX5_parseDigits 42 = .ok (.iconst 1, 1) := by decide +kernel
theorem dX5_parseDigits_43 : decode cX5_parseDigits 43 = .ok (.iadd, 1) := by decide +kernel
theorem dX5_parseDigits_44 : decode cX5_parseDigits 44 = .ok (.putfield 15, 3) := by decide +kernel
theorem dX5_parseDigits_47 : decode cX5_parseDigits 47 = .ok (.iinc 5 1, 3) := by decide +kernel
theorem dX5_parseDigits_50 : decode cX5_parseDigits 50 = .ok (.goto (-44), 3) := by decide +kernel
theorem dX5_parseDigits_53 : decode cX5_parseDigits 53 = .ok (.aload_n 1, 1) := by decide +kernel
theorem dX5_parseDigits_54 : decode cX5_parseDigits 54 = .ok (.getfield 62, 3) := by decide +kernel
theorem dX5_parseDigits_57 : decode cX5_parseDigits 57 = .ok (.iload_n 2, 1) := by decide +kernel
theorem dX5_parseDigits_58 : decode cX5_parseDigits 58 = .ok (.iload 4, 2) := by decide +kernel
theorem dX5_parseDigits_60 : decode cX5_parseDigits 60 = .ok (.iastore, 1) := by decide +kernel
theorem dX5_parseDigits_61 : decode cX5_parseDigits 61 = .ok (.iload 5, 2) := by decide +kernel
theorem dX5_parseDigits_63 : decode cX5_parseDigits 63 = .ok (.ifCond .le 7, 3) := by decide +kernel
theorem dX5_parseDigits_66 : decode cX5_parseDigits 66 = .ok (.iconst 1, 1) := by decide +kernel
theorem dX5_parseDigits_67 : decode cX5_parseDigits 67 = .ok (.goto 4, 3) := by decide +kernel
theorem dX5_parseDigits_70 : decode cX5_parseDigits 70 = .ok (.iconst 0, 1) := by decide +kernel
theorem dX5_parseDigits_71 : decode cX5_parseDigits 71 = .ok (.ireturn, 1) := by decide +kernel
theorem dX5_isDigit_0 : decode cX5_isDigit 0 = .ok (.iload_n 0, 1) := by decide +kernel
theorem dX5_isDigit_1 : decode cX5_isDigit 1 = .ok (.bipush 48, 2) := by decide +kernel
theorem dX5_isDigit_3 : decode cX5_isDigit 3 = .ok (.if_icmp .lt 13, 3) := by decide +kernel
theorem dX5_isDigit_6 : decode cX5_isDigit 6 = .ok (.iload_n 0, 1) := by decide +kernel
theorem dX5_isDigit_7 : decode cX5_isDigit 7 = .ok (.bipush 57, 2) := by decide +kernel
theorem dX5_isDigit_9 : decode cX5_isDigit 9 = .ok (.if_icmp .gt 7, 3) := by decide +kernel
theorem dX5_isDigit_12 : decode cX5_isDigit 12 = .ok (.iconst 1, 1) := by decide +kernel
theorem dX5_isDigit_13 : decode cX5_isDigit 13 = .ok (.goto 4, 3) := by decide +kernel
theorem dX5_isDigit_16 : decode cX5_isDigit 16 = .ok (.iconst 0, 1) := by decide +kernel
theorem dX5_isDigit_17 : decode cX5_isDigit 17 = .ok (.ireturn, 1) := by decide +kernel
theorem dX6_init_0 : decode cX6_init 0 = .ok (.aload_n 0, 1) := by decide +kernel
theorem dX6_init_1 : decode cX6_init 1 = .ok (.invokespecial 3, 3) := by decide +kernel
theorem dX6_init_4 : decode cX6_init 4 = .ok (.aload_n 0, 1) := by decide +kernel
theorem dX6_init_5 : decode cX6_init 5 = .ok (.iconst 0, 1) := by decide +kernel
theorem dX6_init_6 : decode cX6_init 6 = .ok (.putfield 9, 3) := by decide +kernel
theorem dX6_init_9 : decode cX6_init 9 = .ok (.aload_n 0, 1) := by decide +kernel
theorem dX6_init_10 : decode cX6_init 10 = .ok (.bipush 24, 2) := by decide +kernel
theorem dX6_init_12 : decode cX6_init 12 = .ok (.newarray .int, 2) := by decide +kernel
theorem dX6_init_14 : decode cX6_init 14 = .ok (.putfield 15, 3) := by decide +kernel
theorem dX6_init_17 : decode cX6_init 17 = .ok (.aload_n 0, 1) := by decide +kernel
theorem dX6_init_18 : decode cX6_init 18 = .ok (.bipush 24, 2) := by decide +kernel
theorem dX6_init_20 : decode cX6_init 20 = .ok (.newarray .int, 2) := by decide +kernel
theorem dX6_init_22 : decode cX6_init 22 = .ok (.putfield 19, 3) := by decide +kernel
theorem dX6_init_25 : decode cX6_init 25 = .ok (.aload_n 0, 1) := by decide +kernel
theorem dX6_init_26 : decode cX6_init 26 = .ok (.bipush 24, 2) := by decide +kernel
theorem dX6_init_28 : decode cX6_init 28 = .ok (.newarray .int, 2) := by decide +kernel
theorem dX6_init_30 : decode cX6_init 30 = .ok (.putfield 22, 3) := by decide +kernel
theorem dX6_init_33 : decode cX6_init 33 = .ok (.aload_n 0, 1) := by decide +kernel
theorem dX6_init_34 : decode cX6_init 34 = .ok (.bipush 24, 2) := by decide +kernel
theorem dX6_init_36 : decode cX6_init 36 = .ok (.newarray .int, 2) := by decide +kernel
theorem dX6_init_38 : decode cX6_init 38 = .ok (.putfield 25, 3) := by decide +kernel
theorem dX6_init_41 : decode cX6_init 41 = .ok (.aload_n 0, 1) := by decide +kernel
theorem dX6_init_42 : decode cX6_init 42 = .ok (.bipush 24, 2) := by decide +kernel
theorem dX6_init_44 : decode cX6_init 44 = .ok (.newarray .int, 2) := by decide +kernel
theorem dX6_init_46 : decode cX6_init 46 = .ok (.putfield 28, 3) := by decide +kernel
theorem dX6_init_49 : decode cX6_init 49 = .ok (.aload_n 0, 1) := by decide +kernel
theorem dX6_init_50 : decode cX6_init 50 = .ok (.bipush 24, 2) := by decide +kernel
theorem dX6_init_52 : decode cX6_init 52 = .ok (.newarray .int, 2) := by decide +kernel
theorem dX6_init_54 : decode cX6_init 54 = .ok (.putfield 31, 3) := by decide +kernel
theorem dX6_init_57 : decode cX6_init 57 = .ok (.return_, 1) := by decide +kernel
theorem dX6_assign_0 : decode cX6_assign 0 = .ok (.aload_n 0, 1) := by decide +kernel
theorem dX6_assign_1 : decode cX6_assign 1 = .ok (.iconst 0, 1) := by decide +kernel
theorem dX6_assign_2 : decode cX6_assign 2 = .ok (.putfield 9, 3) := by decide +kernel
theorem dX6_assign_5 : decode cX6_assign 5 = .ok (.iconst 0, 1) := by decide +kernel
theorem dX6_assign_6 : decode cX6_assign 6 = .ok (.istore_n 3, 1) := by decide +kernel
theorem dX6_assign_7 : decode cX6_assign 7 = .ok (.iload_n 3, 1) := by decide +kernel
theorem dX6_assign_8 : decode cX6_assign 8 = .ok (.aload_n 1, 1) := by decide +kernel
theorem dX6_assign_9 : decode cX6_assign 9 = .ok (.getfield 34, 3) := by decide +kernel
theorem dX6_assign_12 : decode cX6_assign 12 = .ok (.if_icmp .ge 72, 3) := by decide +kernel
theorem dX6_assign_15 : decode cX6_assign 15 = .ok (.aload_n 1, 1) := by decide +kernel
theorem dX6_assign_16 : decode cX6_assign 16 = .ok (.getfield 37, 3) := by decide +kernel
theorem dX6_assign_19 : decode cX6_assign 19 = .ok (.iload_n 3, 1) := by decide +kernel
theorem dX6_assign_20 : decode cX6_assign 20 = .ok (.iaload, 1) := by decide +kernel
theorem dX6_assign_21 : decode cX6_assign 21 = .ok (.iconst 3, 1) := by decide +kernel
theorem dX6_assign_22 : decode cX6_assign 22 = .ok (.if_icmp .lt 26, 3) := by decide +kernel
theorem dX6_assign_25 : decode cX6_assign 25 = .ok (.aload_n 1, 1) := by decide +kernel
theorem dX6_assign_26 : decode cX6_assign 26 = .ok (.getfield 37, 3) := by decide +kernel
theorem dX6_assign_29 : decode cX6_assign 29 = .ok (.iload_n 3, 1) := by decide +kernel
theorem dX6_assign_30 : decode cX6_assign 30 = .ok (.iaload, 1) := by decide +kernel
theorem dX6_assign_31 : decode cX6_assign 31 = .ok (.iconst 5, 1) := by decide +kernel
theorem dX6_assign_32 : decode cX6_assign 32 = .ok (.if_icmp .gt 16, 3) := by decide +kernel
theorem dX6_assign_35 : decode cX6_assign 35 = .ok (.aload_n 2, 1) := by decide +kernel
theorem dX6_assign_36 : decode cX6_assign 36 = .ok (.getfield 38, 3) := by decide +kernel
theorem dX6_assign_39 : decode cX6_assign 39 = .ok (.iload_n 3, 1) := by decide +kernel
theorem dX6_assign_40 : decode cX6_assign 40 = .ok (.iaload, 1) := by decide +kernel
theorem dX6_assign_41 : decode cX6_assign 41 = .ok (.ifCond .eq 7, 3) := by decide +kernel
theorem dX6_assign_44 : decode cX6_assign 44 = .ok (.iconst 1, 1) := by decide +kernel
theorem dX6_assign_45 : decode cX6_assign 45 = .ok (.goto 4, 3) := by decide +kernel
theorem dX6_assign_48 : decode cX6_assign 48 = .ok (.iconst 0, 1) := by decide +kernel
theorem dX6_assign_49 : decode cX6_assign 49 = .ok (.istore 4, 2) := by decide +kernel
theorem dX6_assign_51 : decode cX6_assign 51 = .ok (.aload_n 0, 1) := by decide +kernel
theorem dX6_assign_52 : decode cX6_assign 52 = .ok (.getfield 31, 3) := by decide +kernel
theorem dX6_assign_55 : decode cX6_assign 55 = .ok (.iload_n 3, 1) := by decide +kernel
theorem dX6_assign_56 : decode cX6_assign 56 = .ok (.iload 4, 2) := by decide +kernel
theorem dX6_assign_58 : decode cX6_assign 58 = .ok (.ifCond .eq 18, 3) := by decide +kernel
theorem dX6_assign_61 : decode cX6_assign 61 = .ok (.aload_n 0, 1) := by decide +kernel
theorem dX6_assign_62 : decode cX6_assign 62 = .ok (.aload_n 1, 1) := by decide +kernel
theorem dX6_assign_63 : decode cX6_assign 63 = .ok (.iload_n 3, 1) := by decide +kernel
theorem dX6_assign_64 : decode cX6_assign 64 = .ok (.aload_n 2, 1) := by decide +kernel
theorem dX6_assign_65 : decode cX6_assign 65 = .ok (.getfield 38, 3) := by decide +kernel
theorem dX6_assign_68 : decode cX6_assign 68 = .ok (.iload_n 3, 1) := by decide +kernel
theorem dX6_assign_69 : decode cX6_assign 69 = .ok (.iaload, 1) := by decide +kernel
theorem dX6_assign_70 : decode cX6_assign 70 = .ok (.invokevirtual 43, 3) := by decide +kernel
theorem dX6_assign_73 : decode cX6_assign 73 = .ok (.goto 4, 3) := by decide +kernel
theorem dX6_assign_76 : decode cX6_assign 76 = .ok (.iconst (-1), 1) := by decide +kernel
theorem dX6_assign_77 : decode cX6_assign 77 = .ok (.iastore, 1) := by decide +kernel
theorem dX6_assign_78 : decode cX6_assign 78 = .ok (.iinc 3 1, 3) := by decide +kernel
theorem dX6_assign_81 : decode cX6_assign 81 = .ok (.goto (-74), 3) := by decide +kernel
theorem dX6_assign_84 : decode cX6_assign 84 = .ok (.return_, 1) := by decide +kernel
theorem dX6_costOf_0 : decode cX6_costOf 0 = .ok (.aload_n 0, 1) := by decide +kernel
theorem dX6_costOf_1 : decode cX6_costOf 1 = .ok (.iload_n 1, 1) := by decide +kernel
theorem dX6_costOf_2 : decode cX6_costOf 2 = .ok (.aload_n 0, 1) := by decide +kernel
theorem dX6_costOf_3 : decode cX6_costOf 3 = .ok (.getfield 19, 3) := by decide +kernel
theorem dX6_costOf_6 : decode cX6_costOf 6 = .ok (.iload_n 1, 1) := by decide +kernel
theorem dX6_costOf_7 : decode cX6_costOf 7 = .ok (.iaload, 1) := by decide +kernel
theorem dX6_costOf_8 : decode cX6_costOf 8 = .ok (.aload_n 0, 1) := by decide +kernel
theorem dX6_costOf_9 : decode cX6_costOf 9 = .ok (.getfield 22, 3) := by decide +kernel
theorem dX6_costOf_12 : decode cX6_costOf 12 = .ok (.iload_n 1, 1) := by decide +kernel
theorem dX6_costOf_13 : decode cX6_costOf 13 = .ok (.iaload, 1) := by decide +kernel
theorem dX6_costOf_14 : decode cX6_costOf 14 = .ok (.invokevirtual 47, 3) := by decide +kernel
theorem dX6_costOf_17 : decode cX6_costOf 17 = .ok (.ireturn, 1) := by decide +kernel
theorem dX6_costOfAll_0 : decode cX6_costOfAll 0 = .ok (.iconst 0, 1) := by decide +kernel
theorem dX6_costOfAll_1 : decode cX6_costOfAll 1 = .ok (.istore_n 1, 1) := by decide +kernel
theorem dX6_costOfAll_2 : decode cX6_costOfAll 2 = .ok (.iconst 0, 1) := by decide +kernel
theorem dX6_costOfAll_3 : decode cX6_costOfAll 3 = .ok (.istore_n 2, 1) := by decide +kernel
theorem dX6_costOfAll_4 : decode cX6_costOfAll 4 = .ok (.iload_n 2, 1) := by decide +kernel
theorem dX6_costOfAll_5 : decode cX6_costOfAll 5 = .ok (.aload_n 0, 1) := by decide +kernel
theorem dX6_costOfAll_6 : decode cX6_costOfAll 6 = .ok (.getfield 9, 3) := by decide +kernel
theorem dX6_costOfAll_9 : decode cX6_costOfAll 9 = .ok (.if_icmp .ge 17, 3) := by decide +kernel
theorem dX6_costOfAll_12 : decode cX6_costOfAll 12 = .ok (.iload_n 1, 1) := by decide +kernel
theorem dX6_costOfAll_13 : decode cX6_costOfAll 13 = .ok (.aload_n 0, 1) := by decide +kernel
theorem dX6_costOfAll_14 : decode cX6_costOfAll 14 = .ok (.iload_n 2, 1) := by decide +kernel
theorem dX6_costOfAll_15 : decode cX6_costOfAll 15 = .ok (.invokevirtual 51, 3) := by decide +kernel
theorem dX6_costOfAll_18 : decode cX6_costOfAll 18 = .ok (.iadd, 1) := by decide +kernel
theorem dX6_costOfAll_19 : decode cX6_costOfAll 19 = .ok (.istore_n 1, 1) := by decide +kernel
theorem dX6_costOfAll_20 : decode cX6_costOfAll 20 = .ok (.iinc 2 1, 3) := by decide +kernel
theorem dX6_costOfAll_23 : decode cX6_costOfAll 23 = .ok (.goto (-19), 3) := by decide +kernel
theorem dX6_costOfAll_26 : decode cX6_costOfAll 26 = .ok (.iload_n 1, 1) := by decide +kernel
theorem dX6_costOfAll_27 : decode cX6_costOfAll 27 = .ok (.ireturn, 1) := by decide +kernel
theorem dX6_place_0 : decode cX6_place 0 = .ok (.iconst 1, 1) := by decide +kernel
theorem dX6_place_1 : decode cX6_place 1 = .ok (.aload_n 1, 1) := by decide +kernel
theorem dX6_place_2 : decode cX6_place 2 = .ok (.getfield 55, 3) := by decide +kernel
theorem dX6_place_5 : decode cX6_place 5 = .ok (.iload_n 2, 1) := by decide +kernel
theorem dX6_place_6 : decode cX6_place 6 = .ok (.iaload, 1) := by decide +kernel
theorem dX6_place_7 : decode cX6_place 7 = .ok (.ishl, 1) := by decide +kernel
theorem dX6_place_8 : decode cX6_place 8 = .ok (.istore 4, 2) := by decide +kernel
theorem dX6_place_10 : decode cX6_place 10 = .ok (.aload_n 0, 1) := by decide +kernel
theorem dX6_place_11 : decode cX6_place 11 = .ok (.aload_n 1, 1) := by decide +kernel
theorem dX6_place_12 : decode cX6_place 12 = .ok (.getfield 37, 3) := by decide +kernel
theorem dX6_place_15 : decode cX6_place 15 = .ok (.iload_n 2, 1) := by decide +kernel
theorem dX6_place_16 : decode cX6_place 16 = .ok (.iaload, 1) := by decide +kernel
theorem dX6_place_17 : decode cX6_place 17 = .ok (.iload 4, 2) := by decide +kernel
theorem dX6_place_19 : decode cX6_place 19 = .ok (.iload_n 3, 1) := by decide +kernel
theorem dX6_place_20 : decode cX6_place 20 = .ok (.invokevirtual 58, 3) := by decide +kernel
theorem dX6_place_23 : decode cX6_place 23 = .ok (.istore 5, 2) := by decide +kernel
theorem dX6_place_25 : decode cX6_place 25 = .ok (.iload 5, 2) := by decide +kernel
theorem dX6_place_27 : decode cX6_place 27 = .ok (.iconst (-1), 1) := by decide +kernel
theorem dX6_place_28 : decode cX6_place 28 = .ok (.if_icmp .ne 64, 3) := by decide +kernel
theorem dX6_place_31 : decode cX6_place 31 = .ok (.aload_n 0, 1) := by decide +kernel
theorem dX6_place_32 : decode cX6_place 32 = .ok (.getfield 9, 3) := by decide +kernel
theorem dX6_place_35 : decode cX6_place 35 = .ok (.istore 5, 2) := by decide +kernel
theorem dX6_place_37 : decode cX6_place 37 = .ok (.aload_n 0, 1) := by decide +kernel
theorem dX6_place_38 : decode cX6_place 38 = .ok (.dup, 1) := by decide +kernel
theorem dX6_place_39 : decode cX6_place 39 = .ok (.getfield 9, 3) := by decide +kernel
theorem dX6_place_42 : decode cX6_place 42 = .ok (.iconst 1, 1) := by decide +kernel
theorem dX6_place_43 : decode cX6_place 43 = .ok (.iadd, 1) := by decide +kernel
theorem dX6_place_44 : decode cX6_place 44 = .ok (.putfield 9, 3) := by decide +kernel
theorem dX6_place_47 : decode cX6_place 47 = .ok (.aload_n 0, 1) := by decide +kernel
theorem dX6_place_48 : decode cX6_place 48 = .ok (.getfield 15, 3) := by decide +kernel
theorem dX6_place_51 : decode cX6_place 51 = .ok (.iload 5, 2) := by decide +kernel
theorem dX6_place_53 : decode cX6_place 53 = .ok (.aload_n 1, 1) := by decide +kernel
theorem dX6_place_54 : decode cX6_place 54 = .ok (.getfield 37, 3) := by decide +kernel
theorem dX6_place_57 : decode cX6_place 57 = .ok (.iload_n 2, 1) := by decide +kernel
theorem dX6_place_58 : decode cX6_place 58 = .ok (.iaload, 1) := by decide +kernel
theorem dX6_place_59 : decode cX6_place 59 = .ok (.iastore, 1) := by decide +kernel
theorem dX6_place_60 : decode cX6_place 60 = .ok (.aload_n 0, 1) := by decide +kernel
theorem dX6_place_61 : decode cX6_place 61 = .ok (.getfield 19, 3) := by decide +kernel
theorem dX6_place_64 : decode cX6_place 64 = .ok (.iload 5, 2) := by decide +kernel
theorem dX6_place_66 : decode cX6_place 66 = .ok (.iconst 0, 1) := by decide +kernel
theorem dX6_place_67 : decode cX6_place 67 = .ok (.iastore, 1) := by decide +kernel
theorem dX6_place_68 : decode cX6_place 68 = .ok (.aload_n 0, 1) := by decide +kernel
theorem dX6_place_69 : decode cX6_place 69 = .ok (.getfield 22, 3) := by decide +kernel
theorem dX6_place_72 : decode cX6_place 72 = .ok (.iload 5, 2) := by decide +kernel
theorem dX6_place_74 : decode cX6_place 74 = .ok (.iconst 0, 1) := by decide +kernel
theorem dX6_place_75 : decode cX6_place 75 = .ok (.iastore, 1) := by decide +kernel
theorem dX6_place_76 : decode cX6_place 76 = .ok (.aload_n 0, 1) := by decide +kernel
theorem dX6_place_77 : decode cX6_place 77 = .ok (.getfield 25, 3) := by decide +kernel
theorem dX6_place_80 : decode cX6_place 80 = .ok (.iload 5, 2) := by decide +kernel
theorem dX6_place_82 : decode cX6_place 82 = .ok (.iload_n 2, 1) := by decide +kernel
theorem dX6_place_83 : decode cX6_place 83 = .ok (.iastore, 1) := by decide +kernel
theorem dX6_place_84 : decode cX6_place 84 = .ok (.aload_n 0, 1) := by decide +kernel
theorem dX6_place_85 : decode cX6_place 85 = .ok (.getfield 28, 3) := by decide +kernel
theorem dX6_place_88 : decode cX6_place 88 = .ok (.iload 5, 2) := by decide +kernel
theorem dX6_place_90 : decode cX6_place 90 = .ok (.iconst 0, 1) := by decide +kernel
theorem dX6_place_91 : decode cX6_place 91 = .ok (.iastore, 1) := by decide +kernel
theorem dX6_place_92 : decode cX6_place 92 = .ok (.aload_n 0, 1) := by decide +kernel
theorem dX6_place_93 : decode cX6_place 93 = .ok (.getfield 19, 3) := by decide +kernel
theorem dX6_place_96 : decode cX6_place 96 = .ok (.iload 5, 2) := by decide +kernel
theorem dX6_place_98 : decode cX6_place 98 = .ok (.aload_n 0, 1) := by decide +kernel
theorem dX6_place_99 : decode cX6_place 99 = .ok (.getfield 19, 3) := by decide +kernel
theorem dX6_place_102 : decode cX6_place 102 = .ok (.iload 5, 2) := by decide +kernel
theorem dX6_place_104 : decode cX6_place 104 = .ok (.iaload, 1) := by decide +kernel
theorem dX6_place_105 : decode cX6_place 105 = .ok (.iload_n 3, 1) := by decide +kernel
theorem dX6_place_106 : decode cX6_place 106 = .ok (.invokestatic 61, 3) := by decide +kernel
theorem dX6_place_109 : decode cX6_place 109 = .ok (.iastore, 1) := by decide +kernel
theorem dX6_place_110 : decode cX6_place 110 = .ok (.aload_n 0, 1) := by decide +kernel
theorem dX6_place_111 : decode cX6_place 111 = .ok (.getfield 22, 3) := by decide +kernel
theorem dX6_place_114 : decode cX6_place 114 = .ok (.iload 5, 2) := by decide +kernel
theorem dX6_place_116 : decode cX6_place 116 = .ok (.dup2, 1) := by decide +kernel
theorem dX6_place_117 : decode cX6_place 117 = .ok (.iaload, 1) := by decide +kernel
theorem dX6_place_118 : decode cX6_place 118 = .ok (.iconst 1, 1) := by decide +kernel
theorem dX6_place_119 : decode cX6_place 119 = .ok (.iadd, 1) := by decide +kernel
theorem dX6_place_120 : decode cX6_place 120 = .ok (.iastore, 1) := by decide +kernel
theorem dX6_place_121 : decode cX6_place 121 = .ok (.aload_n 0, 1) := by decide +kernel
theorem dX6_place_122 : decode cX6_place 122 = .ok (.getfield 28, 3) := by decide +kernel
theorem dX6_place_125 : decode cX6_place 125 = .ok (.iload 5, 2) := by decide +kernel
theorem dX6_place_127 : decode cX6_place 127 = .ok (.dup2, 1) := by decide +kernel
theorem dX6_place_128 : decode cX6_place 128 = .ok (.iaload, 1) := by decide +kernel
theorem dX6_place_129 : decode cX6_place 129 = .ok (.iload 4, 2) := by decide +kernel
theorem dX6_place_131 : decode cX6_place 131 = .ok (.ior, 1) := by decide +kernel
theorem dX6_place_132 : decode cX6_place 132 = .ok (.iastore, 1) := by decide +kernel
theorem dX6_place_133 : decode cX6_place 133 = .ok (.iload 5, 2) := by decide +kernel
theorem dX6_place_135 : decode cX6_place 135 = .ok (.ireturn, 1) := by decide +kernel
theorem dX6_cheapest_0 : decode cX6_cheapest 0 = .ok (.iconst (-1), 1) := by decide +kernel
theorem dX6_cheapest_1 : decode cX6_cheapest 1 = .ok (.istore 4, 2) := by decide +kernel
theorem dX6_cheapest_3 : decode cX6_cheapest 3 = .ok (.iload_n 1, 1) := by decide +kernel
theorem dX6_cheapest_4 : decode cX6_cheapest 4 = .ok (.iload_n 3, 1) := by decide +kernel
theorem dX6_cheapest_5 : decode cX6_cheapest 5 = .ok (.invokestatic 67, 3) := by decide +kernel
theorem dX6_cheapest_8 : decode cX6_cheapest 8 = .ok (.istore 5, 2) := by decide +kernel
theorem dX6_cheapest_10 : decode cX6_cheapest 10 = .ok (.iconst 0, 1) := by decide +kernel
theorem dX6_cheapest_11 : decode cX6_cheapest 11 = .ok (.istore 6, 2) := by decide +kernel
theorem dX6_cheapest_13 : decode cX6_cheapest 13 = .ok (.iload 6, 2) := by decide +kernel
theorem dX6_cheapest_15 : decode cX6_cheapest 15 = .ok (.aload_n 0, 1) := by decide +kernel
theorem dX6_cheapest_16 : decode cX6_cheapest 16 = .ok (.getfield 9, 3) := by decide +kernel
theorem dX6_cheapest_19 : decode cX6_cheapest 19 = .ok (.if_icmp .ge 100, 3) := by decide +kernel
theorem dX6_cheapest_22 : decode cX6_cheapest 22 = .ok (.aload_n 0, 1) := by decide +kernel
theorem dX6_cheapest_23 : decode cX6_cheapest 23 = .ok (.getfield 15, 3) := by decide +kernel
theorem dX6_cheapest_26 : decode cX6_cheapest 26 = .ok (.iload 6, 2) := by decide +kernel
theorem dX6_cheapest_28 : decode cX6_cheapest 28 = .ok (.iaload, 1) := by decide +kernel
theorem dX6_cheapest_29 : decode cX6_cheapest 29 = .ok (.iload_n 1, 1) := by decide +kernel
theorem dX6_cheapest_30 : decode cX6_cheapest 30 = .ok (.if_icmp .ne 83, 3) := by decide +kernel
theorem dX6_cheapest_33 : decode cX6_cheapest 33 = .ok (.aload_n 0, 1) := by decide +kernel
theorem dX6_cheapest_34 : decode cX6_cheapest 34 = .ok (.getfield 28, 3) := by decide +kernel
theorem dX6_cheapest_37 : decode cX6_cheapest 37 = .ok (.iload 6, 2) := by decide +kernel
theorem dX6_cheapest_39 : decode cX6_cheapest 39 = .ok (.iaload, 1) := by decide +kernel
theorem dX6_cheapest_40 : decode cX6_cheapest 40 = .ok (.iload_n 2, 1) := by decide +kernel
theorem dX6_cheapest_41 : decode cX6_cheapest 41 = .ok (.iand, 1) := by decide +kernel
theorem dX6_cheapest_42 : decode cX6_cheapest 42 = .ok (.ifCond .ne 71, 3) := by decide +kernel
theorem dX6_cheapest_45 : decode cX6_cheapest 45 = .ok (.aload_n 0, 1) := by decide +kernel
theorem dX6_cheapest_46 : decode cX6_cheapest 46 = .ok (.getfield 19, 3) := by decide +kernel
theorem dX6_cheapest_49 : decode cX6_cheapest 49 = .ok (.iload 6, 2) := by decide +kernel
theorem dX6_cheapest_51 : decode cX6_cheapest 51 = .ok (.iaload, 1) := by decide +kernel
theorem dX6_cheapest_52 : decode cX6_cheapest 52 = .ok (.iload_n 3, 1) := by decide +kernel
theorem dX6_cheapest_53 : decode cX6_cheapest 53 = .ok (.invokestatic 61, 3) := by decide +kernel
theorem dX6_cheapest_56 : decode cX6_cheapest 56 = .ok (.istore 7, 2) := by decide +kernel
theorem dX6_cheapest_58 : decode cX6_cheapest 58 = .ok (.aload_n 0, 1) := by decide +kernel
theorem dX6_cheapest_59 : decode cX6_cheapest 59 = .ok (.iload 6, 2) := by decide +kernel
theorem dX6_cheapest_61 : decode cX6_cheapest 61 = .ok (.iload 7, 2) := by decide +kernel
theorem dX6_cheapest_63 : decode cX6_cheapest 63 = .ok (.aload_n 0, 1) := by decide +kernel
theorem dX6_cheapest_64 : decode cX6_cheapest 64 = .ok (.getfield 22, 3) := by decide +kernel
theorem dX6_cheapest_67 : decode cX6_cheapest 67 = .ok (.iload 6, 2) := by decide +kernel
theorem dX6_cheapest_69 : decode cX6_cheapest 69 = .ok (.iaload, 1) := by decide +kernel
theorem dX6_cheapest_70 : decode cX6_cheapest 70 = .ok (.iconst 1, 1) := by decide +kernel
theorem dX6_cheapest_71 : decode cX6_cheapest 71 = .ok (.iadd, 1) := by decide +kernel
theorem dX6_cheapest_72 : decode cX6_cheapest 72 = .ok (.invokevirtual 47, 3) := by decide +kernel
theorem dX6_cheapest_75 : decode cX6_cheapest 75 = .ok (.aload_n 0, 1) := by decide +kernel
theorem dX6_cheapest_76 : decode cX6_cheapest 76 = .ok (.iload 6, 2) := by decide +kernel
theorem dX6_cheapest_78 : decode cX6_cheapest 78 = .ok (.aload_n 0, 1) := by decide +kernel
theorem dX6_cheapest_79 : decode cX6_cheapest 79 = .ok (.getfield 19, 3) := by decide +kernel
theorem dX6_cheapest_82 : decode cX6_cheapest 82 = .ok (.iload 6, 2) := by decide +kernel
theorem dX6_cheapest_84 : decode cX6_cheapest 84 = .ok (.iaload, 1) := by decide +kernel
theorem dX6_cheapest_85 : decode cX6_cheapest 85 = .ok (.aload_n 0, 1) := by decide +kernel
theorem dX6_cheapest_86 : decode cX6_cheapest 86 = .ok (.getfield 22, 3) := by decide +kernel
theorem dX6_cheapest_89 : decode cX6_cheapest 89 = .ok (.iload 6, 2) := by decide +kernel
theorem dX6_cheapest_91 : decode cX6_cheapest 91 = .ok (.iaload, 1) := by decide +kernel
theorem dX6_cheapest_92 : decode cX6_cheapest 92 = .ok (.invokevirtual 47, 3) := by decide +kernel
theorem dX6_cheapest_95 : decode cX6_cheapest 95 = .ok (.isub, 1) := by decide +kernel
theorem dX6_cheapest_96 : decode cX6_cheapest 96 = .ok (.istore 8, 2) := by decide +kernel
theorem dX6_cheapest_98 : decode cX6_cheapest 98 = .ok (.iload 8, 2) := by decide +kernel
theorem dX6_cheapest_100 : decode cX6_cheapest 100 = .ok (.iload 5, 2) := by decide +kernel
theorem dX6_cheapest_102 : decode cX6_cheapest 102 = .ok (.if_icmp .ge 11, 3) := by decide +kernel
theorem dX6_cheapest_105 : decode cX6_cheapest 105 = .ok (.iload 6, 2) := by decide +kernel
theorem dX6_cheapest_107 : decode cX6_cheapest 107 = .ok (.istore 4, 2) := by decide +kernel
theorem dX6_cheapest_109 : decode cX6_cheapest 109 = .ok (.iload 8, 2) := by decide +kernel
theorem dX6_cheapest_111 : decode cX6_cheapest 111 = .ok (.istore 5, 2) := by decide +kernel
theorem dX6_cheapest_113 : decode cX6_cheapest 113 = .ok (.iinc 6 1, 3) := by decide +kernel
theorem dX6_cheapest_116 : decode cX6_cheapest 116 = .ok (.goto (-103), 3) := by decide +kernel
theorem dX6_cheapest_119 : decode cX6_cheapest 119 = .ok (.iload 4, 2) := by decide +kernel
theorem dX6_cheapest_121 : decode cX6_cheapest 121 = .ok (.ireturn, 1) := by decide +kernel
theorem dX6_costWith_0 : decode cX6_costWith 0 = .ok (.aload_n 0, 1) := by decide +kernel
theorem dX6_costWith_1 : decode cX6_costWith 1 = .ok (.getfield 15, 3) := by decide +kernel
theorem dX6_costWith_4 : decode cX6_costWith 4 = .ok (.iload_n 1, 1) := by decide +kernel
theorem dX6_costWith_5 : decode cX6_costWith 5 = .ok (.iaload, 1) := by decide +kernel
theorem dX6_costWith_6 : decode cX6_costWith 6 = .ok (.iload_n 2, 1) := by decide +kernel
theorem dX6_costWith_7 : decode cX6_costWith 7 = .ok (.invokestatic 67, 3) := by decide +kernel
theorem dX6_costWith_10 : decode cX6_costWith 10 = .ok (.iload_n 2, 1) := by decide +kernel
theorem dX6_costWith_11 : decode cX6_costWith 11 = .ok (.iload_n 3, 1) := by decide +kernel
theorem dX6_costWith_12 : decode cX6_costWith 12 = .ok (.iconst 1, 1) := by decide +kernel
theorem dX6_costWith_13 : decode cX6_costWith 13 = .ok (.isub, 1) := by decide +kernel
theorem dX6_costWith_14 : decode cX6_costWith 14 = .ok (.imul, 1) := by decide +kernel
theorem dX6_costWith_15 : decode cX6_costWith 15 = .ok (.iadd, 1) := by decide +kernel
theorem dX6_costWith_16 : decode cX6_costWith 16 = .ok (.ireturn, 1) := by decide +kernel
theorem dX7_init_0 : decode cX7_init 0 = .ok (.aload_n 0, 1) := by decide +kernel
theorem dX7_init_1 : decode cX7_init 1 = .ok (.invokespecial 3, 3) := by decide +kernel
theorem dX7_init_4 : decode cX7_init 4 = .ok (.aload_n 0, 1) := by decide +kernel
theorem dX7_init_5 : decode cX7_init 5 = .ok (.bipush 24, 2) := by decide +kernel
theorem dX7_init_7 : decode cX7_init 7 = .ok (.newarray .int, 2) := by decide +kernel
theorem dX7_init_9 : decode cX7_init 9 = .ok (.putfield 9, 3) := by decide +kernel
theorem dX7_init_12 : decode cX7_init 12 = .ok (.aload_n 0, 1) := by decide +kernel
theorem dX7_init_13 : decode cX7_init 13 = .ok (.bipush 24, 2) := by decide +kernel
theorem dX7_init_15 : decode cX7_init 15 = .ok (.newarray .int, 2) := by decide +kernel
theorem dX7_init_17 : decode cX7_init 17 = .ok (.putfield 15, 3) := by decide +kernel
theorem dX7_init_20 : decode cX7_init 20 = .ok (.aload_n 0, 1) := by decide +kernel
theorem dX7_init_21 : decode cX7_init 21 = .ok (.bipush 24, 2) := by decide +kernel
theorem dX7_init_23 : decode cX7_init 23 = .ok (.newarray .boolean, 2) := by decide +kernel
theorem dX7_init_25 : decode cX7_init 25 = .ok (.putfield 18, 3) := by decide +kernel
theorem dX7_init_28 : decode cX7_init 28 = .ok (.aload_n 0, 1) := by decide +kernel
theorem dX7_init_29 : decode cX7_init 29 = .ok (.iconst 0, 1) := by decide +kernel
theorem dX7_init_30 : decode cX7_init 30 = .ok (.putfield 22, 3) := by decide +kernel
theorem dX7_init_33 : decode cX7_init 33 = .ok (.return_, 1) := by decide +kernel
theorem dX7_find_0 : decode cX7_find 0 = .ok (.aload_n 0, 1) := by decide +kernel
theorem dX7_find_1 : decode cX7_find 1 = .ok (.getfield 9, 3) := by decide +kernel
theorem dX7_find_4 : decode cX7_find 4 = .ok (.iconst 0, 1) := by decide +kernel
theorem dX7_find_5 : decode cX7_find 5 = .ok (.invokestatic 26, 3) := by decide +kernel
theorem dX7_find_8 : decode cX7_find 8 = .ok (.iconst 0, 1) := by decide +kernel
theorem dX7_find_9 : decode cX7_find 9 = .ok (.istore_n 3, 1) := by decide +kernel
theorem dX7_find_10 : decode cX7_find 10 = .ok (.iload_n 3, 1) := by decide +kernel
theorem dX7_find_11 : decode cX7_find 11 = .ok (.aload_n 1, 1) := by decide +kernel
theorem dX7_find_12 : decode cX7_find 12 = .ok (.getfield 32, 3) := by decide +kernel
theorem dX7_find_15 : decode cX7_find 15 = .ok (.if_icmp .ge 25, 3) := by decide +kernel
theorem dX7_find_18 : decode cX7_find 18 = .ok (.aload_n 1, 1) := by decide +kernel
theorem dX7_find_19 : decode cX7_find 19 = .ok (.getfield 38, 3) := by decide +kernel
theorem dX7_find_22 : decode cX7_find 22 = .ok (.iload_n 3, 1) := by decide +kernel
theorem dX7_find_23 : decode cX7_find 23 = .ok (.baload, 1) := by decide +kernel
theorem dX7_find_24 : decode cX7_find 24 = .ok (.ifCond .eq 10, 3) := by decide +kernel
theorem dX7_find_27 : decode cX7_find 27 = .ok (.aload_n 0, 1) := by decide +kernel
theorem dX7_find_28 : decode cX7_find 28 = .ok (.aload_n 2, 1) := by decide +kernel
theorem dX7_find_29 : decode cX7_find 29 = .ok (.iload_n 3, 1) := by decide +kernel
theorem dX7_find_30 : decode cX7_find 30 = .ok (.iconst (-1), 1) := by decide +kernel
theorem dX7_find_31 : decode cX7_find 31 = .ok (.invokevirtual 41, 3) := by decide +kernel
theorem dX7_find_34 : decode cX7_find 34 = .ok (.iinc 3 1, 3) := by decide +kernel
theorem dX7_find_37 : decode cX7_find 37 = .ok (.goto (-27), 3) := by decide +kernel
theorem dX7_find_40 : decode cX7_find 40 = .ok (.aload_n 0, 1) := by decide +kernel
theorem dX7_find_41 : decode cX7_find 41 = .ok (.iconst 1, 1) := by decide +kernel
theorem dX7_find_42 : decode cX7_find 42 = .ok (.putfield 22, 3) := by decide +kernel
theorem dX7_find_45 : decode cX7_find 45 = .ok (.iconst 0, 1) := by decide +kernel
theorem dX7_find_46 : decode cX7_find 46 = .ok (.istore_n 3, 1) := by decide +kernel
theorem dX7_find_47 : decode cX7_find 47 = .ok (.aload_n 0, 1) := by decide +kernel
theorem dX7_find_48 : decode cX7_find 48 = .ok (.getfield 22, 3) := by decide +kernel
theorem dX7_find_51 : decode cX7_find 51 = .ok (.ifCond .eq 58, 3) := by decide +kernel
theorem dX7_find_54 : decode cX7_find 54 = .ok (.iload_n 3, 1) := by decide +kernel
theorem dX7_find_55 : decode cX7_find 55 = .ok (.sipush 769, 3) := by decide +kernel
theorem dX7_find_58 : decode cX7_find 58 = .ok (.if_icmp .ge 51, 3) := by decide +kernel
theorem dX7_find_61 : decode cX7_find 61 = .ok (.aload_n 0, 1) := by decide +kernel
theorem dX7_find_62 : decode cX7_find 62 = .ok (.iconst 0, 1) := by decide +kernel
theorem dX7_find_63 : decode cX7_find 63 = .ok (.putfield 22, 3) := by decide +kernel
theorem dX7_find_66 : decode cX7_find 66 = .ok (.aload_n 1, 1) := by decide +kernel
theorem dX7_find_67 : decode cX7_find 67 = .ok (.getfield 32, 3) := by decide +kernel
theorem dX7_find_70 : decode cX7_find 70 = .ok (.iconst 1, 1) := by decide +kernel
theorem dX7_find_71 : decode cX7_find 71 = .ok (.isub, 1) := by decide +kernel
theorem dX7_find_72 : decode cX7_find 72 = .ok (.istore 4, 2) := by decide +kernel
theorem dX7_find_74 : decode cX7_find 74 = .ok (.iload 4, 2) := by decide +kernel
theorem dX7_find_76 : decode cX7_find 76 = .ok (.ifCond .lt 27, 3) := by decide +kernel
theorem dX7_find_79 : decode cX7_find 79 = .ok (.aload_n 0, 1) := by decide +kernel
theorem dX7_find_80 : decode cX7_find 80 = .ok (.getfield 9, 3) := by decide +kernel
theorem dX7_find_83 : decode cX7_find 83 = .ok (.iload 4, 2) := by decide +kernel
theorem dX7_find_85 : decode cX7_find 85 = .ok (.iaload, 1) := by decide +kernel
theorem dX7_find_86 : decode cX7_find 86 = .ok (.ifCond .eq 11, 3) := by decide +kernel
theorem dX7_find_89 : decode cX7_find 89 = .ok (.aload_n 0, 1) := by decide +kernel
theorem dX7_find_90 : decode cX7_find 90 = .ok (.aload_n 1, 1) := by decide +kernel
theorem dX7_find_91 : decode cX7_find 91 = .ok (.aload_n 2, 1) := by decide +kernel
theorem dX7_find_92 : decode cX7_find 92 = .ok (.iload 4, 2) := by decide +kernel
theorem dX7_find_94 : decode cX7_find 94 = .ok (.invokevirtual 45, 3) := by decide +kernel
theorem dX7_find_97 : decode cX7_find 97 = .ok (.iinc 4 (-1), 3) := by decide +kernel
theorem dX7_find_100 : decode cX7_find 100 = .ok (.goto (-26), 3) := by decide +kernel
theorem dX7_find_103 : decode cX7_find 103 = .ok (.iinc 3 1, 3) := by decide +kernel
theorem dX7_find_106 : decode cX7_find 106 = .ok (.goto (-59), 3) := by decide +kernel
theorem dX7_find_109 : decode cX7_find 109 = .ok (.iconst 0, 1) := by decide +kernel
theorem dX7_find_110 : decode cX7_find 110 = .ok (.istore_n 3, 1) := by decide +kernel
theorem dX7_find_111 : decode cX7_find 111 = .ok (.iload_n 3, 1) := by decide +kernel
theorem dX7_find_112 : decode cX7_find 112 = .ok (.aload_n 1, 1) := by decide +kernel
theorem dX7_find_113 : decode cX7_find 113 = .ok (.getfield 32, 3) := by decide +kernel
theorem dX7_find_116 : decode cX7_find 116 = .ok (.if_icmp .ge 58, 3) := by decide +kernel
theorem dX7_find_119 : decode cX7_find 119 = .ok (.aload_n 0, 1) := by decide +kernel
theorem dX7_find_120 : decode cX7_find 120 = .ok (.getfield 15, 3) := by decide +kernel
theorem dX7_find_123 : decode cX7_find 123 = .ok (.iload_n 3, 1) := by decide +kernel
theorem dX7_find_124 : decode cX7_find 124 = .ok (.aload_n 0, 1) := by decide +kernel
theorem dX7_find_125 : decode cX7_find 125 = .ok (.getfield 9, 3) := by decide +kernel
theorem dX7_find_128 : decode cX7_find 128 = .ok (.iload_n 3, 1) := by decide +kernel
theorem dX7_find_129 : decode cX7_find 129 = .ok (.iaload, 1) := by decide +kernel
theorem dX7_find_130 : decode cX7_find 130 = .ok (.invokestatic 49, 3) := by decide +kernel
theorem dX7_find_133 : decode cX7_find 133 = .ok (.iastore, 1) := by decide +kernel
theorem dX7_find_134 : decode cX7_find 134 = .ok (.aload_n 0, 1) := by decide +kernel
theorem dX7_find_135 : decode cX7_find 135 = .ok (.getfield 18, 3) := by decide +kernel
theorem dX7_find_138 : decode cX7_find 138 = .ok (.iload_n 3, 1) := by decide +kernel
theorem dX7_find_139 : decode cX7_find 139 = .ok (.aload_n 2, 1) := by decide +kernel
theorem dX7_find_140 : decode cX7_find 140 = .ok (.iload_n 3, 1) := by decide +kernel
theorem dX7_find_141 : decode cX7_find 141 = .ok (.invokevirtual 53, 3) := by decide +kernel
theorem dX7_find_144 : decode cX7_find 144 = .ok (.ifCond .eq 22, 3) := by decide +kernel
theorem dX7_find_147 : decode cX7_find 147 = .ok (.aload_n 0, 1) := by decide +kernel
theorem dX7_find_148 : decode cX7_find 148 = .ok (.getfield 15, 3) := by decide +kernel
theorem dX7_find_151 : decode cX7_find 151 = .ok (.iload_n 3, 1) := by decide +kernel
theorem dX7_find_152 : decode cX7_find 152 = .ok (.iaload, 1) := by decide +kernel
theorem dX7_find_153 : decode cX7_find 153 = .ok (.aload_n 2, 1) := by decide +kernel
theorem dX7_find_154 : decode cX7_find 154 = .ok (.getfield 59, 3) := by decide +kernel
theorem dX7_find_157 : decode cX7_find 157 = .ok (.iload_n 3, 1) := by decide +kernel
theorem dX7_find_158 : decode cX7_find 158 = .ok (.iaload, 1) := by decide +kernel
theorem dX7_find_159 : decode cX7_find 159 = .ok (.if_icmp .ne 7, 3) := by decide +kernel
theorem dX7_find_162 : decode cX7_find 162 = .ok (.iconst 1, 1) := by decide +kernel
theorem dX7_find_163 : decode cX7_find 163 = .ok (.goto 4, 3) := by decide +kernel
theorem dX7_find_166 : decode cX7_find 166 = .ok (.iconst 0, 1) := by decide +kernel
theorem dX7_find_167 : decode cX7_find 167 = .ok (.bastore, 1) := by decide +kernel
theorem dX7_find_168 : decode cX7_find 168 = .ok (.iinc 3 1, 3) := by decide +kernel
theorem dX7_find_171 : decode cX7_find 171 = .ok (.goto (-60), 3) := by decide +kernel
theorem dX7_find_174 : decode cX7_find 174 = .ok (.return_, 1) := by decide +kernel
theorem dX7_ask_0 : decode cX7_ask 0 = .ok (.aload_n 1, 1) := by decide +kernel
theorem dX7_ask_1 : decode cX7_ask 1 = .ok (.getfield 59, 3) := by decide +kernel
theorem dX7_ask_4 : decode cX7_ask 4 = .ok (.iload_n 2, 1) := by decide +kernel
theorem dX7_ask_5 : decode cX7_ask 5 = .ok (.iaload, 1) := by decide +kernel
theorem dX7_ask_6 : decode cX7_ask 6 = .ok (.istore 4, 2) := by decide +kernel
theorem dX7_ask_8 : decode cX7_ask 8 = .ok (.iload_n 3, 1) := by decide +kernel
theorem dX7_ask_9 : decode cX7_ask 9 = .ok (.iload 4, 2) := by decide +kernel
theorem dX7_ask_11 : decode cX7_ask 11 = .ok (.invokestatic 62, 3) := by decide +kernel
theorem dX7_ask_14 : decode cX7_ask 14 = .ok (.iand, 1) := by decide +kernel
theorem dX7_ask_15 : decode cX7_ask 15 = .ok (.istore 5, 2) := by decide +kernel
theorem dX7_ask_17 : decode cX7_ask 17 = .ok (.iload 4, 2) := by decide +kernel
theorem dX7_ask_19 : decode cX7_ask 19 = .ok (.iconst 1, 1) := by decide +kernel
theorem dX7_ask_20 : decode cX7_ask 20 = .ok (.isub, 1) := by decide +kernel
theorem dX7_ask_21 : decode cX7_ask 21 = .ok (.istore 6, 2) := by decide +kernel
theorem dX7_ask_23 : decode cX7_ask 23 = .ok (.aload_n 1, 1) := by decide +kernel
theorem dX7_ask_24 : decode cX7_ask 24 = .ok (.iload_n 2, 1) := by decide +kernel
theorem dX7_ask_25 : decode cX7_ask 25 = .ok (.invokevirtual 53, 3) := by decide +kernel
theorem dX7_ask_28 : decode cX7_ask 28 = .ok (.ifCond .eq 19, 3) := by decide +kernel
theorem dX7_ask_31 : decode cX7_ask 31 = .ok (.iload_n 3, 1) := by decide +kernel
theorem dX7_ask_32 : decode cX7_ask 32 = .ok (.iload 6, 2) := by decide +kernel
theorem dX7_ask_34 : decode cX7_ask 34 = .ok (.iushr, 1) := by decide +kernel
theorem dX7_ask_35 : decode cX7_ask 35 = .ok (.ifCond .eq 12, 3) := by decide +kernel
theorem dX7_ask_38 : decode cX7_ask 38 = .ok (.iload 5, 2) := by decide +kernel
theorem dX7_ask_40 : decode cX7_ask 40 = .ok (.iconst 1, 1) := by decide +kernel
theorem dX7_ask_41 : decode cX7_ask 41 = .ok (.iload 6, 2) := by decide +kernel
theorem dX7_ask_43 : decode cX7_ask 43 = .ok (.ishl, 1) := by decide +kernel
theorem dX7_ask_44 : decode cX7_ask 44 = .ok (.ior, 1) := by decide +kernel
theorem dX7_ask_45 : decode cX7_ask 45 = .ok (.istore 5, 2) := by decide +kernel
theorem dX7_ask_47 : decode cX7_ask 47 = .ok (.iload 5, 2) := by decide +kernel
theorem dX7_ask_49 : decode cX7_ask 49 = .ok (.aload_n 0, 1) := by decide +kernel
theorem dX7_ask_50 : decode cX7_ask 50 = .ok (.getfield 9, 3) := by decide +kernel
theorem dX7_ask_53 : decode cX7_ask 53 = .ok (.iload_n 2, 1) := by decide +kernel
theorem dX7_ask_54 : decode cX7_ask 54 = .ok (.iaload, 1) := by decide +kernel
theorem dX7_ask_55 : decode cX7_ask 55 = .ok (.iconst (-1), 1) := by decide +kernel
theorem dX7_ask_56 : decode cX7_ask 56 = .ok (.ixor, 1) := by decide +kernel
theorem dX7_ask_57 : decode cX7_ask 57 = .ok (.iand, 1) := by decide +kernel
theorem dX7_ask_58 : decode cX7_ask 58 = .ok (.ifCond .eq 19, 3) := by decide +kernel
theorem dX7_ask_61 : decode cX7_ask 61 = .ok (.aload_n 0, 1) := by decide +kernel
theorem dX7_ask_62 : decode cX7_ask 62 = .ok (.getfield 9, 3) := by decide +kernel
theorem dX7_ask_65 : decode cX7_ask 65 = .ok (.iload_n 2, 1) := by decide +kernel
theorem dX7_ask_66 : decode cX7_ask 66 = .ok (.dup2, 1) := by decide +kernel
theorem dX7_ask_67 : decode cX7_ask 67 = .ok (.iaload, 1) := by decide +kernel
theorem dX7_ask_68 : decode cX7_ask 68 = .ok (.iload 5, 2) := by decide +kernel
theorem dX7_ask_70 : decode cX7_ask 70 = .ok (.ior, 1) := by decide +kernel
theorem dX7_ask_71 : decode cX7_ask 71 = .ok (.iastore, 1) := by decide +kernel
theorem dX7_ask_72 : decode cX7_ask 72 = .ok (.aload_n 0, 1) := by decide +kernel
theorem dX7_ask_73 : decode cX7_ask 73 = .ok (.iconst 1, 1) := by decide +kernel
theorem dX7_ask_74 : decode cX7_ask 74 = .ok (.putfield 22, 3) := by decide +kernel
theorem dX7_ask_77 : decode cX7_ask 77 = .ok (.return_, 1) := by decide +kernel
theorem dX7_askOperands_0 : decode cX7_askOperands 0 = .ok (.aload_n 1, 1) := by decide +kernel
theorem dX7_askOperands_1 : decode cX7_askOperands 1 = .ok (.getfield 65, 3) := by decide +kernel
theorem dX7_askOperands_4 : decode cX7_askOperands 4 = .ok (.iload_n 3, 1) := by decide +kernel
theorem dX7_askOperands_5 : decode cX7_askOperands 5 = .ok (.iaload, 1) := by decide +kernel
theorem dX7_askOperands_6 : decode cX7_askOperands 6 = .ok (.istore 4, 2) := by decide +kernel
theorem dX7_askOperands_8 : decode cX7_askOperands 8 = .ok (.aload_n 1, 1) := by decide +kernel
theorem dX7_askOperands_9 : decode cX7_askOperands 9 = .ok (.getfield 68, 3) := by decide +kernel
theorem dX7_askOperands_12 : decode cX7_askOperands 12 = .ok (.iload_n 3, 1) := by decide +kernel
theorem dX7_askOperands_13 : decode cX7_askOperands 13 = .ok (.iaload, 1) := by decide +kernel
theorem dX7_askOperands_14 : decode cX7_askOperands 14 = .ok (.istore 5, 2) := by decide +kernel
theorem dX7_askOperands_16 : decode cX7_askOperands 16 = .ok (.aload_n 0, 1) := by decide +kernel
theorem dX7_askOperands_17 : decode cX7_askOperands 17 = .ok (.getfield 9, 3) := by decide +kernel
theorem dX7_askOperands_20 : decode cX7_askOperands 20 = .ok (.iload_n 3, 1) := by decide +kernel
theorem dX7_askOperands_21 : decode cX7_askOperands 21 = .ok (.iaload, 1) := by decide +kernel
theorem dX7_askOperands_22 : decode cX7_askOperands 22 = .ok (.istore 6, 2) := by decide +kernel
theorem dX7_askOperands_24 : decode cX7_askOperands 24 = .ok (.aload_n 1, 1) := by decide +kernel
theorem dX7_askOperands_25 : decode cX7_askOperands 25 = .ok (.getfield 71, 3) := by decide +kernel
theorem dX7_askOperands_28 : decode cX7_askOperands 28 = .ok (.iload_n 3, 1) := by decide +kernel
theorem dX7_askOperands_29 : decode cX7_askOperands 29 = .ok (.iaload, 1) := by decide +kernel
theorem dX7_askOperands_30 : decode cX7_askOperands 30 = .ok (.tableswitch 247 2 12 #[58, 74, 74, 74, 107, 142, 142, 163, 178, 195, 214], 58) := by decide +kernel
theorem dX7_askOperands_88 : decode cX7_askOperands 88 = .ok (.aload_n 0, 1) := by decide +kernel
theorem dX7_askOperands_89 : decode cX7_askOperands 89 = .ok (.aload_n 2, 1) := by decide +kernel
theorem dX7_askOperands_90 : decode cX7_askOperands 90 = .ok (.aload_n 1, 1) := by decide +kernel
theorem dX7_askOperands_91 : decode cX7_askOperands 91 = .ok (.getfield 74, 3) := by decide +kernel
theorem dX7_askOperands_94 : decode cX7_askOperands 94 = .ok (.iload_n 3, 1) := by decide +kernel
theorem dX7_askOperands_95 : decode cX7_askOperands 95 = .ok (.iaload, 1) := by decide +kernel
theorem dX7_askOperands_96 : decode cX7_askOperands 96 = .ok (.iload 6, 2) := by decide +kernel
theorem dX7_askOperands_98 : decode cX7_askOperands 98 = .ok (.invokevirtual 41, 3) := by decide +kernel
theorem dX7_askOperands_101 : decode cX7_askOperands 101 = .ok (.goto 176, 3) := by decide +kernel
theorem dX7_askOperands_104 : decode cX7_askOperands 104 = .ok (.aload_n 0, 1) := by decide +kernel
theorem dX7_askOperands_105 : decode cX7_askOperands 105 = .ok (.aload_n 2, 1) := by decide +kernel
theorem dX7_askOperands_106 : decode cX7_askOperands 106 = .ok (.iload 4, 2) := by decide +kernel
theorem dX7_askOperands_108 : decode cX7_askOperands 108 = .ok (.iload 6, 2) := by decide +kernel
theorem dX7_askOperands_110 : decode cX7_askOperands 110 = .ok (.invokestatic 49, 3) := by decide +kernel
theorem dX7_askOperands_113 : decode cX7_askOperands 113 = .ok (.invokestatic 62, 3) := by decide +kernel
theorem dX7_askOperands_116 : decode cX7_askOperands 116 = .ok (.invokevirtual 41, 3) := by decide +kernel
theorem dX7_askOperands_119 : decode cX7_askOperands 119 = .ok (.aload_n 0, 1) := by decide +kernel
theorem dX7_askOperands_120 : decode cX7_askOperands 120 = .ok (.aload_n 2, 1) := by decide +kernel
theorem dX7_askOperands_121 : decode cX7_askOperands 121 = .ok (.iload 5, 2) := by decide +kernel
theorem dX7_askOperands_123 : decode cX7_askOperands 123 = .ok (.iload 6, 2) := by decide +kernel
theorem dX7_askOperands_125 : decode cX7_askOperands 125 = .ok (.invokestatic 49, 3) := by decide +kernel
theorem dX7_askOperands_128 : decode cX7_askOperands 128 = .ok (.invokestatic 62, 3) := by decide +kernel
theorem dX7_askOperands_131 : decode cX7_askOperands 131 = .ok (.invokevirtual 41, 3) := by decide +kernel
theorem dX7_askOperands_134 : decode cX7_askOperands 134 = .ok (.goto 143, 3) := by decide +kernel
theorem dX7_askOperands_137 : decode cX7_askOperands 137 = .ok (.aload_n 0, 1) := by decide +kernel
theorem dX7_askOperands_138 : decode cX7_askOperands 138 = .ok (.aload_n 2, 1) := by decide +kernel
theorem dX7_askOperands_139 : decode cX7_askOperands 139 = .ok (.iload 4, 2) := by decide +kernel
theorem dX7_askOperands_141 : decode cX7_askOperands 141 = .ok (.iload 6, 2) := by decide +kernel
theorem dX7_askOperands_143 : decode cX7_askOperands 143 = .ok (.aload_n 1, 1) := by decide +kernel
theorem dX7_askOperands_144 : decode cX7_askOperands 144 = .ok (.iload 5, 2) := by decide +kernel
theorem dX7_askOperands_146 : decode cX7_askOperands 146 = .ok (.invokestatic 77, 3) := by decide +kernel
theorem dX7_askOperands_149 : decode cX7_askOperands 149 = .ok (.iand, 1) := by decide +kernel
theorem dX7_askOperands_150 : decode cX7_askOperands 150 = .ok (.invokevirtual 41, 3) := by decide +kernel
theorem dX7_askOperands_153 : decode cX7_askOperands 153 = .ok (.aload_n 0, 1) := by decide +kernel
theorem dX7_askOperands_154 : decode cX7_askOperands 154 = .ok (.aload_n 2, 1) := by decide +kernel
theorem dX7_askOperands_155 : decode cX7_askOperands 155 = .ok (.iload 5, 2) := by decide +kernel
theorem dX7_askOperands_157 : decode cX7_askOperands 157 = .ok (.iload 6, 2) := by decide +kernel
theorem dX7_askOperands_159 : decode cX7_askOperands 159 = .ok (.aload_n 1, 1) := by decide +kernel
theorem dX7_askOperands_160 : decode cX7_askOperands 160 = .ok (.iload 4, 2) := by decide +kernel
theorem dX7_askOperands_162 : decode cX7_askOperands 162 = .ok (.invokestatic 77, 3) := by decide +kernel
theorem dX7_askOperands_165 : decode cX7_askOperands 165 = .ok (.iand, 1) := by decide +kernel
theorem dX7_askOperands_166 : decode cX7_askOperands 166 = .ok (.invokevirtual 41, 3) := by decide +kernel
theorem dX7_askOperands_169 : decode cX7_askOperands 169 = .ok (.goto 108, 3) := by decide +kernel
theorem dX7_askOperands_172 : decode cX7_askOperands 172 = .ok (.aload_n 0, 1) := by decide +kernel
theorem dX7_askOperands_173 : decode cX7_askOperands 173 = .ok (.aload_n 2, 1) := by decide +kernel
theorem dX7_askOperands_174 : decode cX7_askOperands 174 = .ok (.iload 4, 2) := by decide +kernel
theorem dX7_askOperands_176 : decode cX7_askOperands 176 = .ok (.iload 6, 2) := by decide +kernel
theorem dX7_askOperands_178 : decode cX7_askOperands 178 = .ok (.invokevirtual 41, 3) := by decide +kernel
theorem dX7_askOperands_181 : decode cX7_askOperands 181 = .ok (.aload_n 0, 1) := by decide +kernel
theorem dX7_askOperands_182 : decode cX7_askOperands 182 = .ok (.aload_n 2, 1) := by decide +kernel
theorem dX7_askOperands_183 : decode cX7_askOperands 183 = .ok (.iload 5, 2) := by decide +kernel
theorem dX7_askOperands_185 : decode cX7_askOperands 185 = .ok (.iload 6, 2) := by decide +kernel
theorem dX7_askOperands_187 : decode cX7_askOperands 187 = .ok (.invokevirtual 41, 3) := by decide +kernel
theorem dX7_askOperands_190 : decode cX7_askOperands 190 = .ok (.goto 87, 3) := by decide +kernel
theorem dX7_askOperands_193 : decode cX7_askOperands 193 = .ok (.aload_n 0, 1) := by decide +kernel
theorem dX7_askOperands_194 : decode cX7_askOperands 194 = .ok (.aload_n 2, 1) := by decide +kernel
theorem dX7_askOperands_195 : decode cX7_askOperands 195 = .ok (.iload 4, 2) := by decide +kernel
theorem dX7_askOperands_197 : decode cX7_askOperands 197 = .ok (.iload 6, 2) := by decide +kernel
theorem dX7_askOperands_199 : decode cX7_askOperands 199 = .ok (.iload 5, 2) := by decide +kernel
theorem dX7_askOperands_201 : decode cX7_askOperands 201 = .ok (.iushr, 1) := by decide +kernel
theorem dX7_askOperands_202 : decode cX7_askOperands 202 = .ok (.invokevirtual 41, 3) := by decide +kernel
theorem dX7_askOperands_205 : decode cX7_askOperands 205 = .ok (.goto 72, 3) := by decide +kernel
theorem dX7_askOperands_208 : decode cX7_askOperands 208 = .ok (.aload_n 0, 1) := by decide +kernel
theorem dX7_askOperands_209 : decode cX7_askOperands 209 = .ok (.aload_n 2, 1) := by decide +kernel
theorem dX7_askOperands_210 : decode cX7_askOperands 210 = .ok (.iload 4, 2) := by decide +kernel
theorem dX7_askOperands_212 : decode cX7_askOperands 212 = .ok (.iload 6, 2) := by decide +kernel
theorem dX7_askOperands_214 : decode cX7_askOperands 214 = .ok (.iload 5, 2) := by decide +kernel
theorem dX7_askOperands_216 : decode cX7_askOperands 216 = .ok (.invokestatic 81, 3) := by decide +kernel
theorem dX7_askOperands_219 : decode cX7_askOperands 219 = .ok (.invokevirtual 41, 3) := by decide +kernel
theorem dX7_askOperands_222 : decode cX7_askOperands 222 = .ok (.goto 55, 3) := by decide +kernel
theorem dX7_askOperands_225 : decode cX7_askOperands 225 = .ok (.aload_n 0, 1) := by decide +kernel
theorem dX7_askOperands_226 : decode cX7_askOperands 226 = .ok (.aload_n 2, 1) := by decide +kernel
theorem dX7_askOperands_227 : decode cX7_askOperands 227 = .ok (.iload 4, 2) := by decide +kernel
theorem dX7_askOperands_229 : decode cX7_askOperands 229 = .ok (.iconst (-1), 1) := by decide +kernel
theorem dX7_askOperands_230 : decode cX7_askOperands 230 = .ok (.invokevirtual 41, 3) := by decide +kernel
theorem dX7_askOperands_233 : decode cX7_askOperands 233 = .ok (.aload_n 0, 1) := by decide +kernel
theorem dX7_askOperands_234 : decode cX7_askOperands 234 = .ok (.aload_n 2, 1) := by decide +kernel
theorem dX7_askOperands_235 : decode cX7_askOperands 235 = .ok (.iload 5, 2) := by decide +kernel
theorem dX7_askOperands_237 : decode cX7_askOperands 237 = .ok (.iconst (-1), 1) := by decide +kernel
theorem dX7_askOperands_238 : decode cX7_askOperands 238 = .ok (.invokevirtual 41, 3) := by decide +kernel
theorem dX7_askOperands_241 : decode cX7_askOperands 241 = .ok (.goto 36, 3) := by decide +kernel
theorem dX7_askOperands_244 : decode cX7_askOperands 244 = .ok (.aload_n 0, 1) := by decide +kernel
theorem dX7_askOperands_245 : decode cX7_askOperands 245 = .ok (.aload_n 2, 1) := by decide +kernel
theorem dX7_askOperands_246 : decode cX7_askOperands 246 = .ok (.iload 4, 2) := by decide +kernel
theorem dX7_askOperands_248 : decode cX7_askOperands 248 = .ok (.iconst (-1), 1) := by decide +kernel
theorem dX7_askOperands_249 : decode cX7_askOperands 249 = .ok (.invokevirtual 41, 3) := by decide +kernel
theorem dX7_askOperands_252 : decode cX7_askOperands 252 = .ok (.aload_n 0, 1) := by decide +kernel
theorem dX7_askOperands_253 : decode cX7_askOperands 253 = .ok (.aload_n 2, 1) := by decide +kernel
theorem dX7_askOperands_254 : decode cX7_askOperands 254 = .ok (.iload 5, 2) := by decide +kernel
theorem dX7_askOperands_256 : decode cX7_askOperands 256 = .ok (.iload 6, 2) := by decide +kernel
theorem dX7_askOperands_258 : decode cX7_askOperands 258 = .ok (.invokevirtual 41, 3) := by decide +kernel
theorem dX7_askOperands_261 : decode cX7_askOperands 261 = .ok (.aload_n 0, 1) := by decide +kernel
theorem dX7_askOperands_262 : decode cX7_askOperands 262 = .ok (.aload_n 2, 1) := by decide +kernel
theorem dX7_askOperands_263 : decode cX7_askOperands 263 = .ok (.aload_n 1, 1) := by decide +kernel
theorem dX7_askOperands_264 : decode cX7_askOperands 264 = .ok (.getfield 85, 3) := by decide +kernel
theorem dX7_askOperands_267 : decode cX7_askOperands 267 = .ok (.iload_n 3, 1) := by decide +kernel
theorem dX7_askOperands_268 : decode cX7_askOperands 268 = .ok (.iaload, 1) := by decide +kernel
theorem dX7_askOperands_269 : decode cX7_askOperands 269 = .ok (.iload 6, 2) := by decide +kernel
theorem dX7_askOperands_271 : decode cX7_askOperands 271 = .ok (.invokevirtual 41, 3) := by decide +kernel
theorem dX7_askOperands_274 : decode cX7_askOperands 274 = .ok (.goto 3, 3) := by decide +kernel
theorem dX7_askOperands_277 : decode cX7_askOperands 277 = .ok (.return_, 1) := by decide +kernel
theorem dX7_maskOf_0 : decode cX7_maskOf 0 = .ok (.aload_n 0, 1) := by decide +kernel
theorem dX7_maskOf_1 : decode cX7_maskOf 1 = .ok (.getfield 71, 3) := by decide +kernel
theorem dX7_maskOf_4 : decode cX7_maskOf 4 = .ok (.iload_n 1, 1) := by decide +kernel
theorem dX7_maskOf_5 : decode cX7_maskOf 5 = .ok (.iaload, 1) := by decide +kernel
theorem dX7_maskOf_6 : decode cX7_maskOf 6 = .ok (.iconst 1, 1) := by decide +kernel
theorem dX7_maskOf_7 : decode cX7_maskOf 7 = .ok (.if_icmp .ne 12, 3) := by decide +kernel
theorem dX7_maskOf_10 : decode cX7_maskOf 10 = .ok (.aload_n 0, 1) := by decide +kernel
theorem dX7_maskOf_11 : decode cX7_maskOf 11 = .ok (.getfield 65, 3) := by decide +kernel
theorem dX7_maskOf_14 : decode cX7_maskOf 14 = .ok (.iload_n 1, 1) := by decide +kernel
theorem dX7_maskOf_15 : decode cX7_maskOf 15 = .ok (.iaload, 1) := by decide +kernel
theorem dX7_maskOf_16 : decode cX7_maskOf 16 = .ok (.goto 4, 3) := by decide +kernel
theorem dX7_maskOf_19 : decode cX7_maskOf 19 = .ok (.iconst (-1), 1) := by decide +kernel
theorem dX7_maskOf_20 : decode cX7_maskOf 20 = .ok (.ireturn, 1) := by decide +kernel
theorem dX7_beforeShiftRight_0 : decode cX7_beforeShiftRight 0 = .ok (.iload_n 0, 1) := by decide +kernel
theorem dX7_beforeShiftRight_1 : decode cX7_beforeShiftRight 1 = .ok (.bipush 31, 2) := by decide +kernel
theorem dX7_beforeShiftRight_3 : decode cX7_beforeShiftRight 3 = .ok (.iload_n 1, 1) := by decide +kernel
theorem dX7_beforeShiftRight_4 : decode cX7_beforeShiftRight 4 = .ok (.isub, 1) := by decide +kernel
theorem dX7_beforeShiftRight_5 : decode cX7_beforeShiftRight 5 = .ok (.iushr, 1) := by decide +kernel
theorem dX7_beforeShiftRight_6 : decode cX7_beforeShiftRight 6 = .ok (.ifCond .eq 7, 3) := by decide +kernel
theorem dX7_beforeShiftRight_9 : decode cX7_beforeShiftRight 9 = .ok (.iconst 1, 1) := by decide +kernel
theorem dX7_beforeShiftRight_10 : decode cX7_beforeShiftRight 10 = .ok (.goto 4, 3) := by decide +kernel
theorem dX7_beforeShiftRight_13 : decode cX7_beforeShiftRight 13 = .ok (.iconst 0, 1) := by decide +kernel
theorem dX7_beforeShiftRight_14 : decode cX7_beforeShiftRight 14 = .ok (.istore_n 2, 1) := by decide +kernel
theorem dX7_beforeShiftRight_15 : decode cX7_beforeShiftRight 15 = .ok (.iload_n 0, 1) := by decide +kernel
theorem dX7_beforeShiftRight_16 : decode cX7_beforeShiftRight 16 = .ok (.iload_n 1, 1) := by decide +kernel
theorem dX7_beforeShiftRight_17 : decode cX7_beforeShiftRight 17 = .ok (.ishl, 1) := by decide +kernel
theorem dX7_beforeShiftRight_18 : decode cX7_beforeShiftRight 18 = .ok (.iload_n 2, 1) := by decide +kernel
theorem dX7_beforeShiftRight_19 : decode cX7_beforeShiftRight 19 = .ok (.ifCond .eq 8, 3) := by decide +kernel
theorem dX7_beforeShiftRight_22 : decode cX7_beforeShiftRight 22 = .ok (.ldc 88, 2) := by decide +kernel
theorem dX7_beforeShiftRight_24 : decode cX7_beforeShiftRight 24 = .ok (.goto 4, 3) := by decide +kernel
theorem dX7_beforeShiftRight_27 : decode cX7_beforeShiftRight 27 = .ok (.iconst 0, 1) := by decide +kernel
theorem dX7_beforeShiftRight_28 : decode cX7_beforeShiftRight 28 = .ok (.ior, 1) := by decide +kernel
theorem dX7_beforeShiftRight_29 : decode cX7_beforeShiftRight 29 = .ok (.ireturn, 1) := by decide +kernel
theorem dX7_narrowed_0 : decode cX7_narrowed 0 = .ok (.iload_n 2, 1) := by decide +kernel
theorem dX7_narrowed_1 : decode cX7_narrowed 1 = .ok (.aload_n 0, 1) := by decide +kernel
theorem dX7_narrowed_2 : decode cX7_narrowed 2 = .ok (.getfield 15, 3) := by decide +kernel
theorem dX7_narrowed_5 : decode cX7_narrowed 5 = .ok (.iload_n 1, 1) := by decide +kernel
theorem dX7_narrowed_6 : decode cX7_narrowed 6 = .ok (.iaload, 1) := by decide +kernel
theorem dX7_narrowed_7 : decode cX7_narrowed 7 = .ok (.invokestatic 62, 3) := by decide +kernel
theorem dX7_narrowed_10 : decode cX7_narrowed 10 = .ok (.iand, 1) := by decide +kernel
theorem dX7_narrowed_11 : decode cX7_narrowed 11 = .ok (.istore_n 3, 1) := by decide +kernel
theorem dX7_narrowed_12 : decode cX7_narrowed 12 = .ok (.aload_n 0, 1) := by decide +kernel
theorem dX7_narrowed_13 : decode cX7_narrowed 13 = .ok (.getfield 18, 3) := by decide +kernel
theorem dX7_narrowed_16 : decode cX7_narrowed 16 = .ok (.iload_n 1, 1) := by decide +kernel
theorem dX7_narrowed_17 : decode cX7_narrowed 17 = .ok (.baload, 1) := by decide +kernel
theorem dX7_narrowed_18 : decode cX7_narrowed 18 = .ok (.ifCond .ne 5, 3) := by decide +kernel
theorem dX7_narrowed_21 : decode cX7_narrowed 21 = .ok (.iload_n 3, 1) := by decide +kernel
theorem dX7_narrowed_22 : decode cX7_narrowed 22 = .ok (.ireturn, 1) := by decide +kernel
theorem dX7_narrowed_23 : decode cX7_narrowed 23 = .ok (.bipush 32, 2) := by decide +kernel
theorem dX7_narrowed_25 : decode cX7_narrowed 25 = .ok (.aload_n 0, 1) := by decide +kernel
theorem dX7_narrowed_26 : decode cX7_narrowed 26 = .ok (.getfield 15, 3) := by decide +kernel
theorem dX7_narrowed_29 : decode cX7_narrowed 29 = .ok (.iload_n 1, 1) := by decide +kernel
theorem dX7_narrowed_30 : decode cX7_narrowed 30 = .ok (.iaload, 1) := by decide +kernel
theorem dX7_narrowed_31 : decode cX7_narrowed 31 = .ok (.isub, 1) := by decide +kernel
theorem dX7_narrowed_32 : decode cX7_narrowed 32 = .ok (.istore 4, 2) := by decide +kernel
theorem dX7_narrowed_34 : decode cX7_narrowed 34 = .ok (.iload_n 3, 1) := by decide +kernel
theorem dX7_narrowed_35 : decode cX7_narrowed 35 = .ok (.iload 4, 2) := by decide +kernel
theorem dX7_narrowed_37 : decode cX7_narrowed 37 = .ok (.ishl, 1) := by decide +kernel
theorem dX7_narrowed_38 : decode cX7_narrowed 38 = .ok (.iload 4, 2) := by decide +kernel
theorem dX7_narrowed_40 : decode cX7_narrowed 40 = .ok (.ishr, 1) := by decide +kernel
theorem dX7_narrowed_41 : decode cX7_narrowed 41 = .ok (.ireturn, 1) := by decide +kernel
theorem dX7_costIn_0 : decode cX7_costIn 0 = .ok (.aload_n 1, 1) := by decide +kernel
theorem dX7_costIn_1 : decode cX7_costIn 1 = .ok (.getfield 71, 3) := by decide +kernel
theorem dX7_costIn_4 : decode cX7_costIn 4 = .ok (.iload_n 2, 1) := by decide +kernel
theorem dX7_costIn_5 : decode cX7_costIn 5 = .ok (.iaload, 1) := by decide +kernel
theorem dX7_costIn_6 : decode cX7_costIn 6 = .ok (.bipush 11, 2) := by decide +kernel
theorem dX7_costIn_8 : decode cX7_costIn 8 = .ok (.if_icmp .ne 43, 3) := by decide +kernel
theorem dX7_costIn_11 : decode cX7_costIn 11 = .ok (.aload_n 0, 1) := by decide +kernel
theorem dX7_costIn_12 : decode cX7_costIn 12 = .ok (.getfield 15, 3) := by decide +kernel
theorem dX7_costIn_15 : decode cX7_costIn 15 = .ok (.iload_n 2, 1) := by decide +kernel
theorem dX7_costIn_16 : decode cX7_costIn 16 = .ok (.iaload, 1) := by decide +kernel
theorem dX7_costIn_17 : decode cX7_costIn 17 = .ok (.ifCond .eq 34, 3) := by decide +kernel
theorem dX7_costIn_20 : decode cX7_costIn 20 = .ok (.bipush 11, 2) := by decide +kernel
theorem dX7_costIn_22 : decode cX7_costIn 22 = .ok (.aload_n 0, 1) := by decide +kernel
theorem dX7_costIn_23 : decode cX7_costIn 23 = .ok (.getfield 15, 3) := by decide +kernel
theorem dX7_costIn_26 : decode cX7_costIn 26 = .ok (.aload_n 1, 1) := by decide +kernel
theorem dX7_costIn_27 : decode cX7_costIn 27 = .ok (.getfield 65, 3) := by decide +kernel
theorem dX7_costIn_30 : decode cX7_costIn 30 = .ok (.iload_n 2, 1) := by decide +kernel
theorem dX7_costIn_31 : decode cX7_costIn 31 = .ok (.iaload, 1) := by decide +kernel
theorem dX7_costIn_32 : decode cX7_costIn 32 = .ok (.iaload, 1) := by decide +kernel
theorem dX7_costIn_33 : decode cX7_costIn 33 = .ok (.aload_n 0, 1) := by decide +kernel
theorem dX7_costIn_34 : decode cX7_costIn 34 = .ok (.getfield 15, 3) := by decide +kernel
theorem dX7_costIn_37 : decode cX7_costIn 37 = .ok (.aload_n 1, 1) := by decide +kernel
theorem dX7_costIn_38 : decode cX7_costIn 38 = .ok (.getfield 68, 3) := by decide +kernel
theorem dX7_costIn_41 : decode cX7_costIn 41 = .ok (.iload_n 2, 1) := by decide +kernel
theorem dX7_costIn_42 : decode cX7_costIn 42 = .ok (.iaload, 1) := by decide +kernel
theorem dX7_costIn_43 : decode cX7_costIn 43 = .ok (.iaload, 1) := by decide +kernel
theorem dX7_costIn_44 : decode cX7_costIn 44 = .ok (.invokestatic 89, 3) := by decide +kernel
theorem dX7_costIn_47 : decode cX7_costIn 47 = .ok (.invokestatic 94, 3) := by decide +kernel
theorem dX7_costIn_50 : decode cX7_costIn 50 = .ok (.ireturn, 1) := by decide +kernel
theorem dX7_costIn_51 : decode cX7_costIn 51 = .ok (.aload_n 1, 1) := by decide +kernel
theorem dX7_costIn_52 : decode cX7_costIn 52 = .ok (.getfield 71, 3) := by decide +kernel
theorem dX7_costIn_55 : decode cX7_costIn 55 = .ok (.iload_n 2, 1) := by decide +kernel
theorem dX7_costIn_56 : decode cX7_costIn 56 = .ok (.iaload, 1) := by decide +kernel
theorem dX7_costIn_57 : decode cX7_costIn 57 = .ok (.aload_n 0, 1) := by decide +kernel
theorem dX7_costIn_58 : decode cX7_costIn 58 = .ok (.getfield 15, 3) := by decide +kernel
theorem dX7_costIn_61 : decode cX7_costIn 61 = .ok (.iload_n 2, 1) := by decide +kernel
theorem dX7_costIn_62 : decode cX7_costIn 62 = .ok (.iaload, 1) := by decide +kernel
theorem dX7_costIn_63 : decode cX7_costIn 63 = .ok (.invokestatic 94, 3) := by decide +kernel
theorem dX7_costIn_66 : decode cX7_costIn 66 = .ok (.ireturn, 1) := by decide +kernel
theorem dX7_costOfAll_0 : decode cX7_costOfAll 0 = .ok (.iconst 0, 1) := by decide +kernel
theorem dX7_costOfAll_1 : decode cX7_costOfAll 1 = .ok (.istore_n 2, 1) := by decide +kernel
theorem dX7_costOfAll_2 : decode cX7_costOfAll 2 = .ok (.iconst 0, 1) := by decide +kernel
theorem dX7_costOfAll_3 : decode cX7_costOfAll 3 = .ok (.istore_n 3, 1) := by decide +kernel
theorem dX7_costOfAll_4 : decode cX7_costOfAll 4 = .ok (.iload_n 3, 1) := by decide +kernel
theorem dX7_costOfAll_5 : decode cX7_costOfAll 5 = .ok (.aload_n 1, 1) := by decide +kernel
theorem dX7_costOfAll_6 : decode cX7_costOfAll 6 = .ok (.getfield 32, 3) := by decide +kernel
theorem dX7_costOfAll_9 : decode cX7_costOfAll 9 = .ok (.if_icmp .ge 18, 3) := by decide +kernel
theorem dX7_costOfAll_12 : decode cX7_costOfAll 12 = .ok (.iload_n 2, 1) := by decide +kernel
theorem dX7_costOfAll_13 : decode cX7_costOfAll 13 = .ok (.aload_n 0, 1) := by decide +kernel
theorem dX7_costOfAll_14 : decode cX7_costOfAll 14 = .ok (.aload_n 1, 1) := by decide +kernel
theorem dX7_costOfAll_15 : decode cX7_costOfAll 15 = .ok (.iload_n 3, 1) := by decide +kernel
theorem dX7_costOfAll_16 : decode cX7_costOfAll 16 = .ok (.invokevirtual 97, 3) := by decide +kernel
theorem dX7_costOfAll_19 : decode cX7_costOfAll 19 = .ok (.iadd, 1) := by decide +kernel
theorem dX7_costOfAll_20 : decode cX7_costOfAll 20 = .ok (.istore_n 2, 1) := by decide +kernel
theorem dX7_costOfAll_21 : decode cX7_costOfAll 21 = .ok (.iinc 3 1, 3) := by decide +kernel
theorem dX7_costOfAll_24 : decode cX7_costOfAll 24 = .ok (.goto (-20), 3) := by decide +kernel
theorem dX7_costOfAll_27 : decode cX7_costOfAll 27 = .ok (.iload_n 2, 1) := by decide +kernel
theorem dX7_costOfAll_28 : decode cX7_costOfAll 28 = .ok (.ireturn, 1) := by decide +kernel
theorem dX7_sumIn_0 : decode cX7_sumIn 0 = .ok (.iconst 0, 1) := by decide +kernel
theorem dX7_sumIn_1 : decode cX7_sumIn 1 = .ok (.istore_n 2, 1) := by decide +kernel
theorem dX7_sumIn_2 : decode cX7_sumIn 2 = .ok (.iconst 0, 1) := by decide +kernel
theorem dX7_sumIn_3 : decode cX7_sumIn 3 = .ok (.istore_n 3, 1) := by decide +kernel
theorem dX7_sumIn_4 : decode cX7_sumIn 4 = .ok (.iload_n 3, 1) := by decide +kernel
theorem dX7_sumIn_5 : decode cX7_sumIn 5 = .ok (.aload_n 1, 1) := by decide +kernel
theorem dX7_sumIn_6 : decode cX7_sumIn 6 = .ok (.getfield 32, 3) := by decide +kernel
theorem dX7_sumIn_9 : decode cX7_sumIn 9 = .ok (.if_icmp .ge 18, 3) := by decide +kernel
theorem dX7_sumIn_12 : decode cX7_sumIn 12 = .ok (.iload_n 2, 1) := by decide +kernel
theorem dX7_sumIn_13 : decode cX7_sumIn 13 = .ok (.aload_n 0, 1) := by decide +kernel
theorem dX7_sumIn_14 : decode cX7_sumIn 14 = .ok (.getfield 15, 3) := by decide +kernel
theorem dX7_sumIn_17 : decode cX7_sumIn 17 = .ok (.iload_n 3, 1) := by decide +kernel
theorem dX7_sumIn_18 : decode cX7_sumIn 18 = .ok (.iaload, 1) := by decide +kernel
theorem dX7_sumIn_19 : decode cX7_sumIn 19 = .ok (.iadd, 1) := by decide +kernel
theorem dX7_sumIn_20 : decode cX7_sumIn 20 = .ok (.istore_n 2, 1) := by decide +kernel
theorem dX7_sumIn_21 : decode cX7_sumIn 21 = .ok (.iinc 3 1, 3) := by decide +kernel
theorem dX7_sumIn_24 : decode cX7_sumIn 24 = .ok (.goto (-20), 3) := by decide +kernel
theorem dX7_sumIn_27 : decode cX7_sumIn 27 = .ok (.iload_n 2, 1) := by decide +kernel
theorem dX7_sumIn_28 : decode cX7_sumIn 28 = .ok (.ireturn, 1) := by decide +kernel
theorem dX7_zeroesIn_0 : decode cX7_zeroesIn 0 = .ok (.iconst 0, 1) := by decide +kernel
theorem dX7_zeroesIn_1 : decode cX7_zeroesIn 1 = .ok (.istore_n 2, 1) := by decide +kernel
theorem dX7_zeroesIn_2 : decode cX7_zeroesIn 2 = .ok (.iconst 0, 1) := by decide +kernel
theorem dX7_zeroesIn_3 : decode cX7_zeroesIn 3 = .ok (.istore_n 3, 1) := by decide +kernel
theorem dX7_zeroesIn_4 : decode cX7_zeroesIn 4 = .ok (.iload_n 3, 1) := by decide +kernel
theorem dX7_zeroesIn_5 : decode cX7_zeroesIn 5 = .ok (.aload_n 1, 1) := by decide +kernel
theorem dX7_zeroesIn_6 : decode cX7_zeroesIn 6 = .ok (.getfield 32, 3) := by decide +kernel
theorem dX7_zeroesIn_9 : decode cX7_zeroesIn 9 = .ok (.if_icmp .ge 21, 3) := by decide +kernel
theorem dX7_zeroesIn_12 : decode cX7_zeroesIn 12 = .ok (.aload_n 0, 1) := by decide +kernel
theorem dX7_zeroesIn_13 : decode cX7_zeroesIn 13 = .ok (.getfield 15, 3) := by decide +kernel
theorem dX7_zeroesIn_16 : decode cX7_zeroesIn 16 = .ok (.iload_n 3, 1) := by decide +kernel
theorem dX7_zeroesIn_17 : decode cX7_zeroesIn 17 = .ok (.iaload, 1) := by decide +kernel
theorem dX7_zeroesIn_18 : decode cX7_zeroesIn 18 = .ok (.ifCond .ne 6, 3) := by decide +kernel
theorem dX7_zeroesIn_21 : decode cX7_zeroesIn 21 = .ok (.iinc 2 1, 3) := by decide +kernel
theorem dX7_zeroesIn_24 : decode cX7_zeroesIn 24 = .ok (.iinc 3 1, 3) := by decide +kernel
theorem dX7_zeroesIn_27 : decode cX7_zeroesIn 27 = .ok (.goto (-23), 3) := by decide +kernel
theorem dX7_zeroesIn_30 : decode cX7_zeroesIn 30 = .ok (.iload_n 2, 1) := by decide +kernel
theorem dX7_zeroesIn_31 : decode cX7_zeroesIn 31 = .ok (.ireturn, 1) := by decide +kernel
theorem dX8_init_0 : decode cX8_init 0 = .ok (.aload_n 0, 1) := by decide +kernel
theorem dX8_init_1 : decode cX8_init 1 = .ok (.invokespecial 1, 3) := by decide +kernel
theorem dX8_init_4 : decode cX8_init 4 = .ok (.aload_n 0, 1) := by decide +kernel
theorem dX8_init_5 : decode cX8_init 5 = .ok (.new 7, 3) := by decide +kernel
theorem dX8_init_8 : decode cX8_init 8 = .ok (.dup, 1) := by decide +kernel
theorem dX8_init_9 : decode cX8_init 9 = .ok (.invokespecial 9, 3) := by decide +kernel
theorem dX8_init_12 : decode cX8_init 12 = .ok (.putfield 10, 3) := by decide +kernel
theorem dX8_init_15 : decode cX8_init 15 = .ok (.aload_n 0, 1) := by decide +kernel
theorem dX8_init_16 : decode cX8_init 16 = .ok (.new 7, 3) := by decide +kernel
theorem dX8_init_19 : decode cX8_init 19 = .ok (.dup, 1) := by decide +kernel
theorem dX8_init_20 : decode cX8_init 20 = .ok (.invokespecial 9, 3) := by decide +kernel
theorem dX8_init_23 : decode cX8_init 23 = .ok (.putfield 16, 3) := by decide +kernel
theorem dX8_init_26 : decode cX8_init 26 = .ok (.aload_n 0, 1) := by decide +kernel
theorem dX8_init_27 : decode cX8_init 27 = .ok (.new 7, 3) := by decide +kernel
theorem dX8_init_30 : decode cX8_init 30 = .ok (.dup, 1) := by decide +kernel
theorem dX8_init_31 : decode cX8_init 31 = .ok (.invokespecial 9, 3) := by decide +kernel
theorem dX8_init_34 : decode cX8_init 34 = .ok (.putfield 19, 3) := by decide +kernel
theorem dX8_init_37 : decode cX8_init 37 = .ok (.aload_n 0, 1) := by decide +kernel
theorem dX8_init_38 : decode cX8_init 38 = .ok (.new 22, 3) := by decide +kernel
theorem dX8_init_41 : decode cX8_init 41 = .ok (.dup, 1) := by decide +kernel
theorem dX8_init_42 : decode cX8_init 42 = .ok (.invokespecial 24, 3) := by decide +kernel
theorem dX8_init_45 : decode cX8_init 45 = .ok (.putfield 25, 3) := by decide +kernel
theorem dX8_init_48 : decode cX8_init 48 = .ok (.aload_n 0, 1) := by decide +kernel
theorem dX8_init_49 : decode cX8_init 49 = .ok (.new 29, 3) := by decide +kernel
theorem dX8_init_52 : decode cX8_init 52 = .ok (.dup, 1) := by decide +kernel
theorem dX8_init_53 : decode cX8_init 53 = .ok (.invokespecial 31, 3) := by decide +kernel
theorem dX8_init_56 : decode cX8_init 56 = .ok (.putfield 32, 3) := by decide +kernel
theorem dX8_init_59 : decode cX8_init 59 = .ok (.aload_n 0, 1) := by decide +kernel
theorem dX8_init_60 : decode cX8_init 60 = .ok (.new 36, 3) := by decide +kernel
theorem dX8_init_63 : decode cX8_init 63 = .ok (.dup, 1) := by decide +kernel
theorem dX8_init_64 : decode cX8_init 64 = .ok (.invokespecial 38, 3) := by decide +kernel
theorem dX8_init_67 : decode cX8_init 67 = .ok (.putfield 39, 3) := by decide +kernel
theorem dX8_init_70 : decode cX8_init 70 = .ok (.aload_n 0, 1) := by decide +kernel
theorem dX8_init_71 : decode cX8_init 71 = .ok (.new 43, 3) := by decide +kernel
theorem dX8_init_74 : decode cX8_init 74 = .ok (.dup, 1) := by decide +kernel
theorem dX8_init_75 : decode cX8_init 75 = .ok (.invokespecial 45, 3) := by decide +kernel
theorem dX8_init_78 : decode cX8_init 78 = .ok (.putfield 46, 3) := by decide +kernel
theorem dX8_init_81 : decode cX8_init 81 = .ok (.aload_n 0, 1) := by decide +kernel
theorem dX8_init_82 : decode cX8_init 82 = .ok (.new 50, 3) := by decide +kernel
theorem dX8_init_85 : decode cX8_init 85 = .ok (.dup, 1) := by decide +kernel
theorem dX8_init_86 : decode cX8_init 86 = .ok (.invokespecial 52, 3) := by decide +kernel
theorem dX8_init_89 : decode cX8_init 89 = .ok (.putfield 53, 3) := by decide +kernel
theorem dX8_init_92 : decode cX8_init 92 = .ok (.aload_n 0, 1) := by decide +kernel
theorem dX8_init_93 : decode cX8_init 93 = .ok (.new 50, 3) := by decide +kernel
theorem dX8_init_96 : decode cX8_init 96 = .ok (.dup, 1) := by decide +kernel
theorem dX8_init_97 : decode cX8_init 97 = .ok (.invokespecial 52, 3) := by decide +kernel
theorem dX8_init_100 : decode cX8_init 100 = .ok (.putfield 57, 3) := by decide +kernel
theorem dX8_init_103 : decode cX8_init 103 = .ok (.aload_n 0, 1) := by decide +kernel
theorem dX8_init_104 : decode cX8_init 104 = .ok (.new 60, 3) := by decide +kernel
theorem dX8_init_107 : decode cX8_init 107 = .ok (.dup, 1) := by decide +kernel
theorem dX8_init_108 : decode cX8_init 108 = .ok (.invokespecial 62, 3) := by decide +kernel
theorem dX8_init_111 : decode cX8_init 111 = .ok (.putfield 63, 3) := by decide +kernel
theorem dX8_init_114 : decode cX8_init 114 = .ok (.aload_n 0, 1) := by decide +kernel
theorem dX8_init_115 : decode cX8_init 115 = .ok (.new 67, 3) := by decide +kernel
theorem dX8_init_118 : decode cX8_init 118 = .ok (.dup, 1) := by decide +kernel
theorem dX8_init_119 : decode cX8_init 119 = .ok (.invokespecial 69, 3) := by decide +kernel
theorem dX8_init_122 : decode cX8_init 122 = .ok (.putfield 70, 3) := by decide +kernel
theorem dX8_init_125 : decode cX8_init 125 = .ok (.aload_n 0, 1) := by decide +kernel
theorem dX8_init_126 : decode cX8_init 126 = .ok (.iconst 0, 1) := by decide +kernel
theorem dX8_init_127 : decode cX8_init 127 = .ok (.putfield 74, 3) := by decide +kernel
theorem dX8_init_130 : decode cX8_init 130 = .ok (.aload_n 0, 1) := by decide +kernel
theorem dX8_init_131 : decode cX8_init 131 = .ok (.iconst 0, 1) := by decide +kernel
theorem dX8_init_132 : decode cX8_init 132 = .ok (.putfield 78, 3) := by decide +kernel
theorem dX8_init_135 : decode cX8_init 135 = .ok (.return_, 1) := by decide +kernel
theorem dX8_add_0 : decode cX8_add 0 = .ok (.iload_n 1, 1) := by decide +kernel
theorem dX8_add_1 : decode cX8_add 1 = .ok (.ifCond .lt 9, 3) := by decide +kernel
theorem dX8_add_4 : decode cX8_add 4 = .ok (.iload_n 1, 1) := by decide +kernel
theorem dX8_add_5 : decode cX8_add 5 = .ok (.bipush 12, 2) := by decide +kernel
theorem dX8_add_7 : decode cX8_add 7 = .ok (.if_icmp .le 13, 3) := by decide +kernel
theorem dX8_add_10 : decode cX8_add 10 = .ok (.new 81, 3) := by decide +kernel
theorem dX8_add_13 : decode cX8_add 13 = .ok (.dup, 1) := by decide +kernel
theorem dX8_add_14 : decode cX8_add 14 = .ok (.ldc 83, 2) := by decide +kernel
theorem dX8_add_16 : decode cX8_add 16 = .ok (.invokespecial 85, 3) := by decide +kernel
theorem dX8_add_19 : decode cX8_add 19 = .ok (.athrow, 1) := by decide +kernel
theorem dX8_add_20 : decode cX8_add 20 = .ok (.aload_n 0, 1) := by decide +kernel
theorem dX8_add_21 : decode cX8_add 21 = .ok (.getfield 25, 3) := by decide +kernel
theorem dX8_add_24 : decode cX8_add 24 = .ok (.iload_n 1, 1) := by decide +kernel
theorem dX8_add_25 : decode cX8_add 25 = .ok (.iload_n 2, 1) := by decide +kernel
theorem dX8_add_26 : decode cX8_add 26 = .ok (.iload_n 3, 1) := by decide +kernel
theorem dX8_add_27 : decode cX8_add 27 = .ok (.iload 4, 2) := by decide +kernel
theorem dX8_add_29 : decode cX8_add 29 = .ok (.invokevirtual 88, 3) := by decide +kernel
theorem dX8_add_32 : decode cX8_add 32 = .ok (.aload_n 0, 1) := by decide +kernel
theorem dX8_add_33 : decode cX8_add 33 = .ok (.getfield 25, 3) := by decide +kernel
theorem dX8_add_36 : decode cX8_add 36 = .ok (.invokevirtual 92, 3) := by decide +kernel
theorem dX8_add_39 : decode cX8_add 39 = .ok (.ifCond .eq 13, 3) := by decide +kernel
theorem dX8_add_42 : decode cX8_add 42 = .ok (.new 81, 3) := by decide +kernel
theorem dX8_add_45 : decode cX8_add 45 = .ok (.dup, 1) := by decide +kernel
theorem dX8_add_46 : decode cX8_add 46 = .ok (.ldc 96, 2) := by decide +kernel
theorem dX8_add_48 : decode cX8_add 48 = .ok (.invokespecial 85, 3) := by decide +kernel
theorem dX8_add_51 : decode cX8_add 51 = .ok (.athrow, 1) := by decide +kernel
theorem dX8_add_52 : decode cX8_add 52 = .ok (.aload_n 0, 1) := by decide +kernel
theorem dX8_add_53 : decode cX8_add 53 = .ok (.getfield 25, 3) := by decide +kernel
theorem dX8_add_56 : decode cX8_add 56 = .ok (.aload_n 0, 1) := by decide +kernel
theorem dX8_add_57 : decode cX8_add 57 = .ok (.getfield 10, 3) := by decide +kernel
theorem dX8_add_60 : decode cX8_add 60 = .ok (.getfield 98, 3) := by decide +kernel
theorem dX8_add_63 : decode cX8_add 63 = .ok (.invokevirtual 102, 3) := by decide +kernel
theorem dX8_add_66 : decode cX8_add 66 = .ok (.ifCond .eq 13, 3) := by decide +kernel
theorem dX8_add_69 : decode cX8_add 69 = .ok (.new 106, 3) := by decide +kernel
theorem dX8_add_72 : decode cX8_add 72 = .ok (.dup, 1) := by decide +kernel
theorem dX8_add_73 : decode cX8_add 73 = .ok (.ldc 108, 2) := by decide +kernel
theorem dX8_add_75 : decode cX8_add 75 = .ok (.invokespecial 110, 3) := by decide +kernel
theorem dX8_add_78 : decode cX8_add 78 = .ok (.athrow, 1) := by decide +kernel
theorem dX8_add_79 : decode cX8_add 79 = .ok (.aload_n 0, 1) := by decide +kernel
theorem dX8_add_80 : decode cX8_add 80 = .ok (.getfield 10, 3) := by decide +kernel
theorem dX8_add_83 : decode cX8_add 83 = .ok (.invokevirtual 111, 3) := by decide +kernel
theorem dX8_add_86 : decode cX8_add 86 = .ok (.ifCond .eq 13, 3) := by decide +kernel
theorem dX8_add_89 : decode cX8_add 89 = .ok (.new 114, 3) := by decide +kernel
theorem dX8_add_92 : decode cX8_add 92 = .ok (.dup, 1) := by decide +kernel
theorem dX8_add_93 : decode cX8_add 93 = .ok (.ldc 116, 2) := by decide +kernel
theorem dX8_add_95 : decode cX8_add 95 = .ok (.invokespecial 118, 3) := by decide +kernel
theorem dX8_add_98 : decode cX8_add 98 = .ok (.athrow, 1) := by decide +kernel
theorem dX8_add_99 : decode cX8_add 99 = .ok (.aload_n 0, 1) := by decide +kernel
theorem dX8_add_100 : decode cX8_add 100 = .ok (.getfield 10, 3) := by decide +kernel
theorem dX8_add_103 : decode cX8_add 103 = .ok (.aload_n 0, 1) := by decide +kernel
theorem dX8_add_104 : decode cX8_add 104 = .ok (.getfield 25, 3) := by decide +kernel
theorem dX8_add_107 : decode cX8_add 107 = .ok (.invokevirtual 119, 3) := by decide +kernel
theorem dX8_add_110 : decode cX8_add 110 = .ok (.aload_n 0, 1) := by decide +kernel
theorem dX8_add_111 : decode cX8_add 111 = .ok (.invokevirtual 123, 3) := by decide +kernel
theorem dX8_add_114 : decode cX8_add 114 = .ok (.aload_n 0, 1) := by decide +kernel
theorem dX8_add_115 : decode cX8_add 115 = .ok (.getfield 10, 3) := by decide +kernel
theorem dX8_add_118 : decode cX8_add 118 = .ok (.getfield 98, 3) := by decide +kernel
theorem dX8_add_121 : decode cX8_add 121 = .ok (.iconst 1, 1) := by decide +kernel
theorem dX8_add_122 : decode cX8_add 122 = .ok (.isub, 1) := by decide +kernel
theorem dX8_add_123 : decode cX8_add 123 = .ok (.ireturn, 1) := by decide +kernel
theorem dX8_removeLast_0 : decode cX8_removeLast 0 = .ok (.aload_n 0, 1) := by decide +kernel
theorem dX8_removeLast_1 : decode cX8_removeLast 1 = .ok (.getfield 10, 3) := by decide +kernel
theorem dX8_removeLast_4 : decode cX8_removeLast 4 = .ok (.getfield 98, 3) := by decide +kernel
theorem dX8_removeLast_7 : decode cX8_removeLast 7 = .ok (.ifCond .ne 13, 3) := by decide +kernel
theorem dX8_removeLast_10 : decode cX8_removeLast 10 = .ok (.new 126, 3) := by decide +kernel
theorem dX8_removeLast_13 : decode cX8_removeLast 13 = .ok (.dup, 1) := by decide +kernel
theorem dX8_removeLast_14 : decode cX8_removeLast 14 = .ok (.ldc 128, 2) := by decide +kernel
theorem dX8_removeLast_16 : decode cX8_removeLast 16 = .ok (.invokespecial 130, 3) := by decide +kernel
theorem dX8_removeLast_19 : decode cX8_removeLast 19 = .ok (.athrow, 1) := by decide +kernel
theorem dX8_removeLast_20 : decode cX8_removeLast 20 = .ok (.aload_n 0, 1) := by decide +kernel
theorem dX8_removeLast_21 : decode cX8_removeLast 21 = .ok (.getfield 10, 3) := by decide +kernel
theorem dX8_removeLast_24 : decode cX8_removeLast 24 = .ok (.invokevirtual 131, 3) := by decide +kernel
theorem dX8_removeLast_27 : decode cX8_removeLast 27 = .ok (.istore_n 1, 1) := by decide +kernel
theorem dX8_removeLast_28 : decode cX8_removeLast 28 = .ok (.aload_n 0, 1) := by decide +kernel
theorem dX8_removeLast_29 : decode cX8_removeLast 29 = .ok (.invokevirtual 123, 3) := by decide +kernel
theorem dX8_removeLast_32 : decode cX8_removeLast 32 = .ok (.iload_n 1, 1) := by decide +kernel
theorem dX8_removeLast_33 : decode cX8_removeLast 33 = .ok (.ireturn, 1) := by decide +kernel
theorem dX8_setNext_0 : decode cX8_setNext 0 = .ok (.aload_n 0, 1) := by decide +kernel
theorem dX8_setNext_1 : decode cX8_setNext 1 = .ok (.iload_n 1, 1) := by decide +kernel
theorem dX8_setNext_2 : decode cX8_setNext 2 = .ok (.invokevirtual 135, 3) := by decide +kernel
theorem dX8_setNext_5 : decode cX8_setNext 5 = .ok (.aload_n 0, 1) := by decide +kernel
theorem dX8_setNext_6 : decode cX8_setNext 6 = .ok (.iload_n 2, 1) := by decide +kernel
theorem dX8_setNext_7 : decode cX8_setNext 7 = .ok (.invokevirtual 135, 3) := by decide +kernel
theorem dX8_setNext_10 : decode cX8_setNext 10 = .ok (.aload_n 0, 1) := by decide +kernel
theorem dX8_setNext_11 : decode cX8_setNext 11 = .ok (.getfield 10, 3) := by decide +kernel
theorem dX8_setNext_14 : decode cX8_setNext 14 = .ok (.getfield 139, 3) := by decide +kernel
theorem dX8_setNext_17 : decode cX8_setNext 17 = .ok (.iload_n 1, 1) := by decide +kernel
theorem dX8_setNext_18 : decode cX8_setNext 18 = .ok (.iaload, 1) := by decide +kernel
theorem dX8_setNext_19 : decode cX8_setNext 19 = .ok (.iconst 2, 1) := by decide +kernel
theorem dX8_setNext_20 : decode cX8_setNext 20 = .ok (.if_icmp .eq 13, 3) := by decide +kernel
theorem dX8_setNext_23 : decode cX8_setNext 23 = .ok (.new 143, 3) := by decide +kernel
theorem dX8_setNext_26 : decode cX8_setNext 26 = .ok (.dup, 1) := by decide +kernel
theorem dX8_setNext_27 : decode cX8_setNext 27 = .ok (.ldc 145, 2) := by decide +kernel
theorem dX8_setNext_29 : decode cX8_setNext 29 = .ok (.invokespecial 147, 3) := by decide +kernel
theorem dX8_setNext_32 : decode cX8_setNext 32 = .ok (.athrow, 1) := by decide +kernel
theorem dX8_setNext_33 : decode cX8_setNext 33 = .ok (.aload_n 0, 1) := by decide +kernel
theorem dX8_setNext_34 : decode cX8_setNext 34 = .ok (.getfield 10, 3) := by decide +kernel
theorem dX8_setNext_37 : decode cX8_setNext 37 = .ok (.getfield 148, 3) := by decide +kernel
theorem dX8_setNext_40 : decode cX8_setNext 40 = .ok (.iload_n 1, 1) := by decide +kernel
theorem dX8_setNext_41 : decode cX8_setNext 41 = .ok (.iaload, 1) := by decide +kernel
theorem dX8_setNext_42 : decode cX8_setNext 42 = .ok (.istore_n 3, 1) := by decide +kernel
theorem dX8_setNext_43 : decode cX8_setNext 43 = .ok (.aload_n 0, 1) := by decide +kernel
theorem dX8_setNext_44 : decode cX8_setNext 44 = .ok (.getfield 10, 3) := by decide +kernel
theorem dX8_setNext_47 : decode cX8_setNext 47 = .ok (.getfield 148, 3) := by decide +kernel
theorem dX8_setNext_50 : decode cX8_setNext 50 = .ok (.iload_n 1, 1) := by decide +kernel
theorem dX8_setNext_51 : decode cX8_setNext 51 = .ok (.iload_n 2, 1) := by decide +kernel
theorem dX8_setNext_52 : decode cX8_setNext 52 = .ok (.iastore, 1) := by decide +kernel
theorem dX8_setNext_53 : decode cX8_setNext 53 = .ok (.aload_n 0, 1) := by decide +kernel
theorem dX8_setNext_54 : decode cX8_setNext 54 = .ok (.invokevirtual 123, 3) := by decide +kernel
theorem dX8_setNext_57 : decode cX8_setNext 57 = .ok (.iload_n 3, 1) := by decide +kernel
theorem dX8_setNext_58 : decode cX8_setNext 58 = .ok (.ireturn, 1) := by decide +kernel
theorem dX8_setOutput_0 : decode cX8_setOutput 0 = .ok (.aload_n 0, 1) := by decide +kernel
theorem dX8_setOutput_1 : decode cX8_setOutput 1 = .ok (.iload_n 1, 1) := by decide +kernel
theorem dX8_setOutput_2 : decode cX8_setOutput 2 = .ok (.invokevirtual 135, 3) := by decide +kernel
theorem dX8_setOutput_5 : decode cX8_setOutput 5 = .ok (.aload_n 0, 1) := by decide +kernel
theorem dX8_setOutput_6 : decode cX8_setOutput 6 = .ok (.getfield 10, 3) := by decide +kernel
theorem dX8_setOutput_9 : decode cX8_setOutput 9 = .ok (.getfield 151, 3) := by decide +kernel
theorem dX8_setOutput_12 : decode cX8_setOutput 12 = .ok (.iload_n 1, 1) := by decide +kernel
theorem dX8_setOutput_13 : decode cX8_setOutput 13 = .ok (.baload, 1) := by decide +kernel
theorem dX8_setOutput_14 : decode cX8_setOutput 14 = .ok (.istore_n 3, 1) := by decide +kernel
theorem dX8_setOutput_15 : decode cX8_setOutput 15 = .ok (.aload_n 0, 1) := by decide +kernel
theorem dX8_setOutput_16 : decode cX8_setOutput 16 = .ok (.getfield 10, 3) := by decide +kernel
theorem dX8_setOutput_19 : decode cX8_setOutput 19 = .ok (.getfield 151, 3) := by decide +kernel
theorem dX8_setOutput_22 : decode cX8_setOutput 22 = .ok (.iload_n 1, 1) := by decide +kernel
theorem dX8_setOutput_23 : decode cX8_setOutput 23 = .ok (.iload_n 2, 1) := by decide +kernel
theorem dX8_setOutput_24 : decode cX8_setOutput 24 = .ok (.bastore, 1) := by decide +kernel
theorem dX8_setOutput_25 : decode cX8_setOutput 25 = .ok (.aload_n 0, 1) := by decide +kernel
theorem dX8_setOutput_26 : decode cX8_setOutput 26 = .ok (.invokevirtual 123, 3) := by decide +kernel
theorem dX8_setOutput_29 : decode cX8_setOutput 29 = .ok (.iload_n 3, 1) := by decide +kernel
theorem dX8_setOutput_30 : decode cX8_setOutput 30 = .ok (.ireturn, 1) := by decide +kernel
theorem dX8_setPhase_0 : decode cX8_setPhase 0 = .ok (.aload_n 0, 1) := by decide +kernel
theorem dX8_setPhase_1 : decode cX8_setPhase 1 = .ok (.iload_n 1, 1) := by decide +kernel
theorem dX8_setPhase_2 : decode cX8_setPhase 2 = .ok (.invokevirtual 135, 3) := by decide +kernel
theorem dX8_setPhase_5 : decode cX8_setPhase 5 = .ok (.iload_n 2, 1) := by decide +kernel
theorem dX8_setPhase_6 : decode cX8_setPhase 6 = .ok (.ifCond .lt 8, 3) := by decide +kernel
theorem dX8_setPhase_9 : decode cX8_setPhase 9 = .ok (.iload_n 2, 1) := by decide +kernel
theorem dX8_setPhase_10 : decode cX8_setPhase 10 = .ok (.iconst 3, 1) := by decide +kernel
theorem dX8_setPhase_11 : decode cX8_setPhase 11 = .ok (.if_icmp .le 13, 3) := by decide +kernel
theorem dX8_setPhase_14 : decode cX8_setPhase 14 = .ok (.new 81, 3) := by decide +kernel
theorem dX8_setPhase_17 : decode cX8_setPhase 17 = .ok (.dup, 1) := by decide +kernel
theorem dX8_setPhase_18 : decode cX8_setPhase 18 = .ok (.ldc 155, 2) := by decide +kernel
theorem dX8_setPhase_20 : decode cX8_setPhase 20 = .ok (.invokespecial 85, 3) := by decide +kernel
theorem dX8_setPhase_23 : decode cX8_setPhase 23 = .ok (.athrow, 1) := by decide +kernel
theorem dX8_setPhase_24 : decode cX8_setPhase 24 = .ok (.aload_n 0, 1) := by decide +kernel
theorem dX8_setPhase_25 : decode cX8_setPhase 25 = .ok (.getfield 10, 3) := by decide +kernel
theorem dX8_setPhase_28 : decode cX8_setPhase 28 = .ok (.getfield 157, 3) := by decide +kernel
theorem dX8_setPhase_31 : decode cX8_setPhase 31 = .ok (.iload_n 1, 1) := by decide +kernel
theorem dX8_setPhase_32 : decode cX8_setPhase 32 = .ok (.iaload, 1) := by decide +kernel
theorem dX8_setPhase_33 : decode cX8_setPhase 33 = .ok (.istore_n 3, 1) := by decide +kernel
theorem dX8_setPhase_34 : decode cX8_setPhase 34 = .ok (.aload_n 0, 1) := by decide +kernel
theorem dX8_setPhase_35 : decode cX8_setPhase 35 = .ok (.getfield 10, 3) := by decide +kernel
theorem dX8_setPhase_38 : decode cX8_setPhase 38 = .ok (.getfield 157, 3) := by decide +kernel
theorem dX8_setPhase_41 : decode cX8_setPhase 41 = .ok (.iload_n 1, 1) := by decide +kernel
theorem dX8_setPhase_42 : decode cX8_setPhase 42 = .ok (.iload_n 2, 1) := by decide +kernel
theorem dX8_setPhase_43 : decode cX8_setPhase 43 = .ok (.iastore, 1) := by decide +kernel
theorem dX8_setPhase_44 : decode cX8_setPhase 44 = .ok (.aload_n 0, 1) := by decide +kernel
theorem dX8_setPhase_45 : decode cX8_setPhase 45 = .ok (.iconst 0, 1) := by decide +kernel
theorem dX8_setPhase_46 : decode cX8_setPhase 46 = .ok (.putfield 78, 3) := by decide +kernel
theorem dX8_setPhase_49 : decode cX8_setPhase 49 = .ok (.iload_n 3, 1) := by decide +kernel
theorem dX8_setPhase_50 : decode cX8_setPhase 50 = .ok (.ireturn, 1) := by decide +kernel
theorem dX8_signal_0 : decode cX8_signal 0 = .ok (.aload_n 0, 1) := by decide +kernel
theorem dX8_signal_1 : decode cX8_signal 1 = .ok (.iload_n 1, 1) := by decide +kernel
theorem dX8_signal_2 : decode cX8_signal 2 = .ok (.invokevirtual 135, 3) := by decide +kernel
theorem dX8_signal_5 : decode cX8_signal 5 = .ok (.iload_n 2, 1) := by decide +kernel
theorem dX8_signal_6 : decode cX8_signal 6 = .ok (.tableswitch 137 0 6 #[42, 52, 62, 72, 82, 109, 127], 42) := by decide +kernel
theorem dX8_signal_48 : decode cX8_signal 48 = .ok (.aload_n 0, 1) := by decide +kernel
theorem dX8_signal_49 : decode cX8_signal 49 = .ok (.getfield 10, 3) := by decide +kernel
theorem dX8_signal_52 : decode cX8_signal 52 = .ok (.getfield 139, 3) := by decide +kernel
theorem dX8_signal_55 : decode cX8_signal 55 = .ok (.iload_n 1, 1) := by decide +kernel
theorem dX8_signal_56 : decode cX8_signal 56 = .ok (.iaload, 1) := by decide +kernel
theorem dX8_signal_57 : decode cX8_signal 57 = .ok (.ireturn, 1) := by decide +kernel
theorem dX8_signal_58 : decode cX8_signal 58 = .ok (.aload_n 0, 1) := by decide +kernel
theorem dX8_signal_59 : decode cX8_signal 59 = .ok (.getfield 10, 3) := by decide +kernel
theorem dX8_signal_62 : decode cX8_signal 62 = .ok (.getfield 160, 3) := by decide +kernel
theorem dX8_signal_65 : decode cX8_signal 65 = .ok (.iload_n 1, 1) := by decide +kernel
theorem dX8_signal_66 : decode cX8_signal 66 = .ok (.iaload, 1) := by decide +kernel
theorem dX8_signal_67 : decode cX8_signal 67 = .ok (.ireturn, 1) := by decide +kernel
theorem dX8_signal_68 : decode cX8_signal 68 = .ok (.aload_n 0, 1) := by decide +kernel
theorem dX8_signal_69 : decode cX8_signal 69 = .ok (.getfield 10, 3) := by decide +kernel
theorem dX8_signal_72 : decode cX8_signal 72 = .ok (.getfield 163, 3) := by decide +kernel
theorem dX8_signal_75 : decode cX8_signal 75 = .ok (.iload_n 1, 1) := by decide +kernel
theorem dX8_signal_76 : decode cX8_signal 76 = .ok (.iaload, 1) := by decide +kernel
theorem dX8_signal_77 : decode cX8_signal 77 = .ok (.ireturn, 1) := by decide +kernel
theorem dX8_signal_78 : decode cX8_signal 78 = .ok (.aload_n 0, 1) := by decide +kernel
theorem dX8_signal_79 : decode cX8_signal 79 = .ok (.getfield 10, 3) := by decide +kernel
theorem dX8_signal_82 : decode cX8_signal 82 = .ok (.getfield 166, 3) := by decide +kernel
theorem dX8_signal_85 : decode cX8_signal 85 = .ok (.iload_n 1, 1) := by decide +kernel
theorem dX8_signal_86 : decode cX8_signal 86 = .ok (.iaload, 1) := by decide +kernel
theorem dX8_signal_87 : decode cX8_signal 87 = .ok (.ireturn, 1) := by decide +kernel
theorem dX8_signal_88 : decode cX8_signal 88 = .ok (.aload_n 0, 1) := by decide +kernel
theorem dX8_signal_89 : decode cX8_signal 89 = .ok (.getfield 10, 3) := by decide +kernel
theorem dX8_signal_92 : decode cX8_signal 92 = .ok (.getfield 139, 3) := by decide +kernel
theorem dX8_signal_95 : decode cX8_signal 95 = .ok (.iload_n 1, 1) := by decide +kernel
theorem dX8_signal_96 : decode cX8_signal 96 = .ok (.iaload, 1) := by decide +kernel
theorem dX8_signal_97 : decode cX8_signal 97 = .ok (.iconst 2, 1) := by decide +kernel
theorem dX8_signal_98 : decode cX8_signal 98 = .ok (.if_icmp .ne 15, 3) := by decide +kernel
theorem dX8_signal_101 : decode cX8_signal 101 = .ok (.aload_n 0, 1) := by decide +kernel
theorem dX8_signal_102 : decode cX8_signal 102 = .ok (.getfield 10, 3) := by decide +kernel
theorem dX8_signal_105 : decode cX8_signal 105 = .ok (.getfield 148, 3) := by decide +kernel
theorem dX8_signal_108 : decode cX8_signal 108 = .ok (.iload_n 1, 1) := by decide +kernel
theorem dX8_signal_109 : decode cX8_signal 109 = .ok (.iaload, 1) := by decide +kernel
theorem dX8_signal_110 : decode cX8_signal 110 = .ok (.goto 4, 3) := by decide +kernel
theorem dX8_signal_113 : decode cX8_signal 113 = .ok (.iconst (-1), 1) := by decide +kernel
theorem dX8_signal_114 : decode cX8_signal 114 = .ok (.ireturn, 1) := by decide +kernel
theorem dX8_signal_115 : decode cX8_signal 115 = .ok (.aload_n 0, 1) := by decide +kernel
theorem dX8_signal_116 : decode cX8_signal 116 = .ok (.getfield 10, 3) := by decide +kernel
theorem dX8_signal_119 : decode cX8_signal 119 = .ok (.getfield 151, 3) := by decide +kernel
theorem dX8_signal_122 : decode cX8_signal 122 = .ok (.iload_n 1, 1) := by decide +kernel
theorem dX8_signal_123 : decode cX8_signal 123 = .ok (.baload, 1) := by decide +kernel
theorem dX8_signal_124 : decode cX8_signal 124 = .ok (.ifCond .eq 7, 3) := by decide +kernel
theorem dX8_signal_127 : decode cX8_signal 127 = .ok (.iconst 1, 1) := by decide +kernel
theorem dX8_signal_128 : decode cX8_signal 128 = .ok (.goto 4, 3) := by decide +kernel
theorem dX8_signal_131 : decode cX8_signal 131 = .ok (.iconst 0, 1) := by decide +kernel
theorem dX8_signal_132 : decode cX8_signal 132 = .ok (.ireturn, 1) := by decide +kernel
theorem dX8_signal_133 : decode cX8_signal 133 = .ok (.aload_n 0, 1) := by decide +kernel
theorem dX8_signal_134 : decode cX8_signal 134 = .ok (.getfield 10, 3) := by decide +kernel
theorem dX8_signal_137 : decode cX8_signal 137 = .ok (.getfield 157, 3) := by decide +kernel
theorem dX8_signal_140 : decode cX8_signal 140 = .ok (.iload_n 1, 1) := by decide +kernel
theorem dX8_signal_141 : decode cX8_signal 141 = .ok (.iaload, 1) := by decide +kernel
theorem dX8_signal_142 : decode cX8_signal 142 = .ok (.ireturn, 1) := by decide +kernel
theorem dX8_signal_143 : decode cX8_signal 143 = .ok (.new 81, 3) := by decide +kernel
theorem dX8_signal_146 : decode cX8_signal 146 = .ok (.dup, 1) := by decide +kernel
theorem dX8_signal_147 : decode cX8_signal 147 = .ok (.ldc 169, 2) := by decide +kernel
theorem dX8_signal_149 : decode cX8_signal 149 = .ok (.invokespecial 85, 3) := by decide +kernel
theorem dX8_signal_152 : decode cX8_signal 152 = .ok (.athrow, 1) := by decide +kernel
theorem dX8_count_0 : decode cX8_count 0 = .ok (.aload_n 0, 1) := by decide +kernel
theorem dX8_count_1 : decode cX8_count 1 = .ok (.getfield 10, 3) := by decide +kernel
theorem dX8_count_4 : decode cX8_count 4 = .ok (.getfield 98, 3) := by decide +kernel
theorem dX8_count_7 : decode cX8_count 7 = .ok (.ireturn, 1) := by decide +kernel
theorem dX8_clear_0 : decode cX8_clear 0 = .ok (.aload_n 0, 1) := by decide +kernel
theorem dX8_clear_1 : decode cX8_clear 1 = .ok (.getfield 10, 3) := by decide +kernel
theorem dX8_clear_4 : decode cX8_clear 4 = .ok (.getfield 98, 3) := by decide +kernel
theorem dX8_clear_7 : decode cX8_clear 7 = .ok (.istore_n 1, 1) := by decide +kernel
theorem dX8_clear_8 : decode cX8_clear 8 = .ok (.aload_n 0, 1) := by decide +kernel
theorem dX8_clear_9 : decode cX8_clear 9 = .ok (.getfield 10, 3) := by decide +kernel
theorem dX8_clear_12 : decode cX8_clear 12 = .ok (.iconst 0, 1) := by decide +kernel
theorem dX8_clear_13 : decode cX8_clear 13 = .ok (.putfield 98, 3) := by decide +kernel
theorem dX8_clear_16 : decode cX8_clear 16 = .ok (.aload_n 0, 1) := by decide +kernel
theorem dX8_clear_17 : decode cX8_clear 17 = .ok (.invokevirtual 123, 3) := by decide +kernel
theorem dX8_clear_20 : decode cX8_clear 20 = .ok (.iload_n 1, 1) := by decide +kernel
theorem dX8_clear_21 : decode cX8_clear 21 = .ok (.ireturn, 1) := by decide +kernel
theorem dX8_range_0 : decode cX8_range 0 = .ok (.aload_n 0, 1) := by decide +kernel
theorem dX8_range_1 : decode cX8_range 1 = .ok (.iload_n 1, 1) := by decide +kernel
theorem dX8_range_2 : decode cX8_range 2 = .ok (.invokevirtual 135, 3) := by decide +kernel
theorem dX8_range_5 : decode cX8_range 5 = .ok (.aload_n 0, 1) := by decide +kernel
theorem dX8_range_6 : decode cX8_range 6 = .ok (.invokevirtual 171, 3) := by decide +kernel
theorem dX8_range_9 : decode cX8_range 9 = .ok (.iload_n 2, 1) := by decide +kernel
theorem dX8_range_10 : decode cX8_range 10 = .ok (.ifCond .eq 15, 3) := by decide +kernel
theorem dX8_range_13 : decode cX8_range 13 = .ok (.aload_n 0, 1) := by decide +kernel
theorem dX8_range_14 : decode cX8_range 14 = .ok (.getfield 32, 3) := by decide +kernel
theorem dX8_range_17 : decode cX8_range 17 = .ok (.getfield 174, 3) := by decide +kernel
theorem dX8_range_20 : decode cX8_range 20 = .ok (.iload_n 1, 1) := by decide +kernel
theorem dX8_range_21 : decode cX8_range 21 = .ok (.iaload, 1) := by decide +kernel
theorem dX8_range_22 : decode cX8_range 22 = .ok (.goto 12, 3) := by decide +kernel
theorem dX8_range_25 : decode cX8_range 25 = .ok (.aload_n 0, 1) := by decide +kernel
theorem dX8_range_26 : decode cX8_range 26 = .ok (.getfield 32, 3) := by decide +kernel
theorem dX8_range_29 : decode cX8_range 29 = .ok (.getfield 177, 3) := by decide +kernel
theorem dX8_range_32 : decode cX8_range 32 = .ok (.iload_n 1, 1) := by decide +kernel
theorem dX8_range_33 : decode cX8_range 33 = .ok (.iaload, 1) := by decide +kernel
theorem dX8_range_34 : decode cX8_range 34 = .ok (.ireturn, 1) := by decide +kernel
theorem dX8_rounds_0 : decode cX8_rounds 0 = .ok (.aload_n 0, 1) := by decide +kernel
theorem dX8_rounds_1 : decode cX8_rounds 1 = .ok (.invokevirtual 171, 3) := by decide +kernel
theorem dX8_rounds_4 : decode cX8_rounds 4 = .ok (.aload_n 0, 1) := by decide +kernel
theorem dX8_rounds_5 : decode cX8_rounds 5 = .ok (.getfield 32, 3) := by decide +kernel
theorem dX8_rounds_8 : decode cX8_rounds 8 = .ok (.getfield 180, 3) := by decide +kernel
theorem dX8_rounds_11 : decode cX8_rounds 11 = .ok (.ireturn, 1) := by decide +kernel
theorem dX8_demanded_0 : decode cX8_demanded 0 = .ok (.aload_n 0, 1) := by decide +kernel
theorem dX8_demanded_1 : decode cX8_demanded 1 = .ok (.iload_n 1, 1) := by decide +kernel
theorem dX8_demanded_2 : decode cX8_demanded 2 = .ok (.invokevirtual 135, 3) := by decide +kernel
theorem dX8_demanded_5 : decode cX8_demanded 5 = .ok (.aload_n 0, 1) := by decide +kernel
theorem dX8_demanded_6 : decode cX8_demanded 6 = .ok (.invokevirtual 171, 3) := by decide +kernel
theorem dX8_demanded_9 : decode cX8_demanded 9 = .ok (.aload_n 0, 1) := by decide +kernel
theorem dX8_demanded_10 : decode cX8_demanded 10 = .ok (.getfield 39, 3) := by decide +kernel
theorem dX8_demanded_13 : decode cX8_demanded 13 = .ok (.getfield 183, 3) := by decide +kernel
theorem dX8_demanded_16 : decode cX8_demanded 16 = .ok (.iload_n 1, 1) := by decide +kernel
theorem dX8_demanded_17 : decode cX8_demanded 17 = .ok (.iaload, 1) := by decide +kernel
theorem dX8_demanded_18 : decode cX8_demanded 18 = .ok (.ireturn, 1) := by decide +kernel
theorem dX8_width_0 : decode cX8_width 0 = .ok (.aload_n 0, 1) := by decide +kernel
theorem dX8_width_1 : decode cX8_width 1 = .ok (.iload_n 1, 1) := by decide +kernel
theorem dX8_width_2 : decode cX8_width 2 = .ok (.invokevirtual 135, 3) := by decide +kernel
theorem dX8_width_5 : decode cX8_width 5 = .ok (.aload_n 0, 1) := by decide +kernel
theorem dX8_width_6 : decode cX8_width 6 = .ok (.invokevirtual 171, 3) := by decide +kernel
theorem dX8_width_9 : decode cX8_width 9 = .ok (.iload_n 2, 1) := by decide +kernel
theorem dX8_width_10 : decode cX8_width 10 = .ok (.ifCond .eq 15, 3) := by decide +kernel
theorem dX8_width_13 : decode cX8_width 13 = .ok (.aload_n 0, 1) := by decide +kernel
theorem dX8_width_14 : decode cX8_width 14 = .ok (.getfield 32, 3) := by decide +kernel
theorem dX8_width_17 : decode cX8_width 17 = .ok (.getfield 186, 3) := by decide +kernel
theorem dX8_width_20 : decode cX8_width 20 = .ok (.iload_n 1, 1) := by decide +kernel
theorem dX8_width_21 : decode cX8_width 21 = .ok (.iaload, 1) := by decide +kernel
theorem dX8_width_22 : decode cX8_width 22 = .ok (.goto 12, 3) := by decide +kernel
theorem dX8_width_25 : decode cX8_width 25 = .ok (.aload_n 0, 1) := by decide +kernel
theorem dX8_width_26 : decode cX8_width 26 = .ok (.getfield 39, 3) := by decide +kernel
theorem dX8_width_29 : decode cX8_width 29 = .ok (.getfield 189, 3) := by decide +kernel
theorem dX8_width_32 : decode cX8_width 32 = .ok (.iload_n 1, 1) := by decide +kernel
theorem dX8_width_33 : decode cX8_width 33 = .ok (.iaload, 1) := by decide +kernel
theorem dX8_width_34 : decode cX8_width 34 = .ok (.ireturn, 1) := by decide +kernel
theorem dX8_isSigned_0 : decode cX8_isSigned 0 = .ok (.aload_n 0, 1) := by decide +kernel
theorem dX8_isSigned_1 : decode cX8_isSigned 1 = .ok (.iload_n 1, 1) := by decide +kernel
theorem dX8_isSigned_2 : decode cX8_isSigned 2 = .ok (.invokevirtual 135, 3) := by decide +kernel
theorem dX8_isSigned_5 : decode cX8_isSigned 5 = .ok (.aload_n 0, 1) := by decide +kernel
theorem dX8_isSigned_6 : decode cX8_isSigned 6 = .ok (.invokevirtual 171, 3) := by decide +kernel
theorem dX8_isSigned_9 : decode cX8_isSigned 9 = .ok (.aload_n 0, 1) := by decide +kernel
theorem dX8_isSigned_10 : decode cX8_isSigned 10 = .ok (.getfield 39, 3) := by decide +kernel
theorem dX8_isSigned_13 : decode cX8_isSigned 13 = .ok (.getfield 192, 3) := by decide +kernel
theorem dX8_isSigned_16 : decode cX8_isSigned 16 = .ok (.iload_n 1, 1) := by decide +kernel
theorem dX8_isSigned_17 : decode cX8_isSigned 17 = .ok (.baload, 1) := by decide +kernel
theorem dX8_isSigned_18 : decode cX8_isSigned 18 = .ok (.ireturn, 1) := by decide +kernel
theorem dX8_cost_0 : decode cX8_cost 0 = .ok (.aload_n 0, 1) := by decide +kernel
theorem dX8_cost_1 : decode cX8_cost 1 = .ok (.iload_n 1, 1) := by decide +kernel
theorem dX8_cost_2 : decode cX8_cost 2 = .ok (.invokevirtual 135, 3) := by decide +kernel
theorem dX8_cost_5 : decode cX8_cost 5 = .ok (.aload_n 0, 1) := by decide +kernel
theorem dX8_cost_6 : decode cX8_cost 6 = .ok (.invokevirtual 171, 3) := by decide +kernel
theorem dX8_cost_9 : decode cX8_cost 9 = .ok (.aload_n 0, 1) := by decide +kernel
theorem dX8_cost_10 : decode cX8_cost 10 = .ok (.getfield 39, 3) := by decide +kernel
theorem dX8_cost_13 : decode cX8_cost 13 = .ok (.aload_n 0, 1) := by decide +kernel
theorem dX8_cost_14 : decode cX8_cost 14 = .ok (.getfield 10, 3) := by decide +kernel
theorem dX8_cost_17 : decode cX8_cost 17 = .ok (.iload_n 1, 1) := by decide +kernel
theorem dX8_cost_18 : decode cX8_cost 18 = .ok (.invokevirtual 195, 3) := by decide +kernel
theorem dX8_cost_21 : decode cX8_cost 21 = .ok (.ireturn, 1) := by decide +kernel
theorem dX8_total_0 : decode cX8_total 0 = .ok (.aload_n 0, 1) := by decide +kernel
theorem dX8_total_1 : decode cX8_total 1 = .ok (.invokevirtual 171, 3) := by decide +kernel
theorem dX8_total_4 : decode cX8_total 4 = .ok (.iload_n 1, 1) := by decide +kernel
theorem dX8_total_5 : decode cX8_total 5 = .ok (.tableswitch 81 0 4 #[35, 47, 52, 57, 69], 35) := by decide +kernel
theorem dX8_total_40 : decode cX8_total 40 = .ok (.aload_n 0, 1) := by decide +kernel
theorem dX8_total_41 : decode cX8_total 41 = .ok (.getfield 39, 3) := by decide +kernel
theorem dX8_total_44 : decode cX8_total 44 = .ok (.aload_n 0, 1) := by decide +kernel
theorem dX8_total_45 : decode cX8_total 45 = .ok (.getfield 10, 3) := by decide +kernel
theorem dX8_total_48 : decode cX8_total 48 = .ok (.invokevirtual 199, 3) := by decide +kernel
theorem dX8_total_51 : decode cX8_total 51 = .ok (.ireturn, 1) := by decide +kernel
theorem dX8_total_52 : decode cX8_total 52 = .ok (.aload_n 0, 1) := by decide +kernel
theorem dX8_total_53 : decode cX8_total 53 = .ok (.invokevirtual 203, 3) := by decide +kernel
theorem dX8_total_56 : decode cX8_total 56 = .ok (.ireturn, 1) := by decide +kernel
theorem dX8_total_57 : decode cX8_total 57 = .ok (.aload_n 0, 1) := by decide +kernel
theorem dX8_total_58 : decode cX8_total 58 = .ok (.invokevirtual 206, 3) := by decide +kernel
theorem dX8_total_61 : decode cX8_total 61 = .ok (.ireturn, 1) := by decide +kernel
theorem dX8_total_62 : decode cX8_total 62 = .ok (.aload_n 0, 1) := by decide +kernel
theorem dX8_total_63 : decode cX8_total 63 = .ok (.getfield 39, 3) := by decide +kernel
theorem dX8_total_66 : decode cX8_total 66 = .ok (.aload_n 0, 1) := by decide +kernel
theorem dX8_total_67 : decode cX8_total 67 = .ok (.getfield 10, 3) := by decide +kernel
theorem dX8_total_70 : decode cX8_total 70 = .ok (.invokevirtual 209, 3) := by decide +kernel
theorem dX8_total_73 : decode cX8_total 73 = .ok (.ireturn, 1) := by decide +kernel
theorem dX8_total_74 : decode cX8_total 74 = .ok (.aload_n 0, 1) := by decide +kernel
theorem dX8_total_75 : decode cX8_total 75 = .ok (.getfield 39, 3) := by decide +kernel
theorem dX8_total_78 : decode cX8_total 78 = .ok (.aload_n 0, 1) := by decide +kernel
theorem dX8_total_79 : decode cX8_total 79 = .ok (.getfield 10, 3) := by decide +kernel
theorem dX8_total_82 : decode cX8_total 82 = .ok (.invokevirtual 212, 3) := by decide +kernel
theorem dX8_total_85 : decode cX8_total 85 = .ok (.ireturn, 1) := by decide +kernel
theorem dX8_total_86 : decode cX8_total 86 = .ok (.new 81, 3) := by decide +kernel
theorem dX8_total_89 : decode cX8_total 89 = .ok (.dup, 1) := by decide +kernel
theorem dX8_total_90 : decode cX8_total 90 = .ok (.ldc 215, 2) := by decide +kernel
theorem dX8_total_92 : decode cX8_total 92 = .ok (.invokespecial 85, 3) := by decide +kernel
theorem dX8_total_95 : decode cX8_total 95 = .ok (.athrow, 1) := by decide +kernel
theorem dX8_share_0 : decode cX8_share 0 = .ok (.aload_n 0, 1) := by decide +kernel
theorem dX8_share_1 : decode cX8_share 1 = .ok (.invokevirtual 171, 3) := by decide +kernel
theorem dX8_share_4 : decode cX8_share 4 = .ok (.aload_n 0, 1) := by decide +kernel
theorem dX8_share_5 : decode cX8_share 5 = .ok (.invokevirtual 203, 3) := by decide +kernel
theorem dX8_share_8 : decode cX8_share 8 = .ok (.istore_n 1, 1) := by decide +kernel
theorem dX8_share_9 : decode cX8_share 9 = .ok (.iload_n 1, 1) := by decide +kernel
theorem dX8_share_10 : decode cX8_share 10 = .ok (.ifCond .ne 13, 3) := by decide +kernel
theorem dX8_share_13 : decode cX8_share 13 = .ok (.new 217, 3) := by decide +kernel
theorem dX8_share_16 : decode cX8_share 16 = .ok (.dup, 1) := by decide +kernel
theorem dX8_share_17 : decode cX8_share 17 = .ok (.ldc 219, 2) := by decide +kernel
theorem dX8_share_19 : decode cX8_share 19 = .ok (.invokespecial 221, 3) := by decide +kernel
theorem dX8_share_22 : decode cX8_share 22 = .ok (.athrow, 1) := by decide +kernel
theorem dX8_share_23 : decode cX8_share 23 = .ok (.aload_n 0, 1) := by decide +kernel
theorem dX8_share_24 : decode cX8_share 24 = .ok (.getfield 39, 3) := by decide +kernel
theorem dX8_share_27 : decode cX8_share 27 = .ok (.aload_n 0, 1) := by decide +kernel
theorem dX8_share_28 : decode cX8_share 28 = .ok (.getfield 10, 3) := by decide +kernel
theorem dX8_share_31 : decode cX8_share 31 = .ok (.invokevirtual 199, 3) := by decide +kernel
theorem dX8_share_34 : decode cX8_share 34 = .ok (.i2d, 1) := by decide +kernel
theorem dX8_share_35 : decode cX8_share 35 = .ok (.iload_n 1, 1) := by decide +kernel
theorem dX8_share_36 : decode cX8_share 36 = .ok (.i2d, 1) := by decide +kernel
theorem dX8_share_37 : decode cX8_share 37 = .ok (.ddiv, 1) := by decide +kernel
theorem dX8_share_38 : decode cX8_share 38 = .ok (.dreturn, 1) := by decide +kernel
theorem dX8_units_0 : decode cX8_units 0 = .ok (.aload_n 0, 1) := by decide +kernel
theorem dX8_units_1 : decode cX8_units 1 = .ok (.invokevirtual 171, 3) := by decide +kernel
theorem dX8_units_4 : decode cX8_units 4 = .ok (.aload_n 0, 1) := by decide +kernel
theorem dX8_units_5 : decode cX8_units 5 = .ok (.getfield 46, 3) := by decide +kernel
theorem dX8_units_8 : decode cX8_units 8 = .ok (.getfield 222, 3) := by decide +kernel
theorem dX8_units_11 : decode cX8_units 11 = .ok (.ireturn, 1) := by decide +kernel
theorem dX8_unit_0 : decode cX8_unit 0 = .ok (.aload_n 0, 1) := by decide +kernel
theorem dX8_unit_1 : decode cX8_unit 1 = .ok (.invokevirtual 171, 3) := by decide +kernel
theorem dX8_unit_4 : decode cX8_unit 4 = .ok (.iload_n 1, 1) := by decide +kernel
theorem dX8_unit_5 : decode cX8_unit 5 = .ok (.ifCond .lt 14, 3) := by decide +kernel
theorem dX8_unit_8 : decode cX8_unit 8 = .ok (.iload_n 1, 1) := by decide +kernel
theorem dX8_unit_9 : decode cX8_unit 9 = .ok (.aload_n 0, 1) := by decide +kernel
theorem dX8_unit_10 : decode cX8_unit 10 = .ok (.getfield 46, 3) := by decide +kernel
theorem dX8_unit_13 : decode cX8_unit 13 = .ok (.getfield 222, 3) := by decide +kernel
theorem dX8_unit_16 : decode cX8_unit 16 = .ok (.if_icmp .lt 13, 3) := by decide +kernel
theorem dX8_unit_19 : decode cX8_unit 19 = .ok (.new 106, 3) := by decide +kernel
theorem dX8_unit_22 : decode cX8_unit 22 = .ok (.dup, 1) := by decide +kernel
theorem dX8_unit_23 : decode cX8_unit 23 = .ok (.ldc 223, 2) := by decide +kernel
theorem dX8_unit_25 : decode cX8_unit 25 = .ok (.invokespecial 110, 3) := by decide +kernel
theorem dX8_unit_28 : decode cX8_unit 28 = .ok (.athrow, 1) := by decide +kernel
theorem dX8_unit_29 : decode cX8_unit 29 = .ok (.iload_n 2, 1) := by decide +kernel
theorem dX8_unit_30 : decode cX8_unit 30 = .ok (.tableswitch 83 0 4 #[34, 44, 54, 63, 73], 34) := by decide +kernel
theorem dX8_unit_64 : decode cX8_unit 64 = .ok (.aload_n 0, 1) := by decide +kernel
theorem dX8_unit_65 : decode cX8_unit 65 = .ok (.getfield 46, 3) := by decide +kernel
theorem dX8_unit_68 : decode cX8_unit 68 = .ok (.getfield 225, 3) := by decide +kernel
theorem dX8_unit_71 : decode cX8_unit 71 = .ok (.iload_n 1, 1) := by decide +kernel
theorem dX8_unit_72 : decode cX8_unit 72 = .ok (.iaload, 1) := by decide +kernel
theorem dX8_unit_73 : decode cX8_unit 73 = .ok (.ireturn, 1) := by decide +kernel
theorem dX8_unit_74 : decode cX8_unit 74 = .ok (.aload_n 0, 1) := by decide +kernel
theorem dX8_unit_75 : decode cX8_unit 75 = .ok (.getfield 46, 3) := by decide +kernel
theorem dX8_unit_78 : decode cX8_unit 78 = .ok (.getfield 226, 3) := by decide +kernel
theorem dX8_unit_81 : decode cX8_unit 81 = .ok (.iload_n 1, 1) := by decide +kernel
theorem dX8_unit_82 : decode cX8_unit 82 = .ok (.iaload, 1) := by decide +kernel
theorem dX8_unit_83 : decode cX8_unit 83 = .ok (.ireturn, 1) := by decide +kernel
theorem dX8_unit_84 : decode cX8_unit 84 = .ok (.aload_n 0, 1) := by decide +kernel
theorem dX8_unit_85 : decode cX8_unit 85 = .ok (.getfield 46, 3) := by decide +kernel
theorem dX8_unit_88 : decode cX8_unit 88 = .ok (.iload_n 1, 1) := by decide +kernel
theorem dX8_unit_89 : decode cX8_unit 89 = .ok (.invokevirtual 229, 3) := by decide +kernel
theorem dX8_unit_92 : decode cX8_unit 92 = .ok (.ireturn, 1) := by decide +kernel
theorem dX8_unit_93 : decode cX8_unit 93 = .ok (.aload_n 0, 1) := by decide +kernel
theorem dX8_unit_94 : decode cX8_unit 94 = .ok (.getfield 46, 3) := by decide +kernel
theorem dX8_unit_97 : decode cX8_unit 97 = .ok (.getfield 233, 3) := by decide +kernel
theorem dX8_unit_100 : decode cX8_unit 100 = .ok (.iload_n 1, 1) := by decide +kernel
theorem dX8_unit_101 : decode cX8_unit 101 = .ok (.iaload, 1) := by decide +kernel
theorem dX8_unit_102 : decode cX8_unit 102 = .ok (.ireturn, 1) := by decide +kernel
theorem dX8_unit_103 : decode cX8_unit 103 = .ok (.aload_n 0, 1) := by decide +kernel
theorem dX8_unit_104 : decode cX8_unit 104 = .ok (.getfield 46, 3) := by decide +kernel
theorem dX8_unit_107 : decode cX8_unit 107 = .ok (.getfield 236, 3) := by decide +kernel
theorem dX8_unit_110 : decode cX8_unit 110 = .ok (.iload_n 1, 1) := by decide +kernel
theorem dX8_unit_111 : decode cX8_unit 111 = .ok (.iaload, 1) := by decide +kernel
theorem dX8_unit_112 : decode cX8_unit 112 = .ok (.ireturn, 1) := by decide +kernel
theorem dX8_unit_113 : decode cX8_unit 113 = .ok (.new 81, 3) := by decide +kernel
theorem dX8_unit_116 : decode cX8_unit 116 = .ok (.dup, 1) := by decide +kernel
theorem dX8_unit_117 : decode cX8_unit 117 = .ok (.ldc 239, 2) := by decide +kernel
theorem dX8_unit_119 : decode cX8_unit 119 = .ok (.invokespecial 85, 3) := by decide +kernel
theorem dX8_unit_122 : decode cX8_unit 122 = .ok (.athrow, 1) := by decide +kernel
theorem dX8_unitOf_0 : decode cX8_unitOf 0 = .ok (.aload_n 0, 1) := by decide +kernel
theorem dX8_unitOf_1 : decode cX8_unitOf 1 = .ok (.iload_n 1, 1) := by decide +kernel
theorem dX8_unitOf_2 : decode cX8_unitOf 2 = .ok (.invokevirtual 135, 3) := by decide +kernel
theorem dX8_unitOf_5 : decode cX8_unitOf 5 = .ok (.aload_n 0, 1) := by decide +kernel
theorem dX8_unitOf_6 : decode cX8_unitOf 6 = .ok (.invokevirtual 171, 3) := by decide +kernel
theorem dX8_unitOf_9 : decode cX8_unitOf 9 = .ok (.aload_n 0, 1) := by decide +kernel
theorem dX8_unitOf_10 : decode cX8_unitOf 10 = .ok (.getfield 46, 3) := by decide +kernel
theorem dX8_unitOf_13 : decode cX8_unitOf 13 = .ok (.getfield 241, 3) := by decide +kernel
theorem dX8_unitOf_16 : decode cX8_unitOf 16 = .ok (.iload_n 1, 1) := by decide +kernel
theorem dX8_unitOf_17 : decode cX8_unitOf 17 = .ok (.iaload, 1) := by decide +kernel
theorem dX8_unitOf_18 : decode cX8_unitOf 18 = .ok (.ifCond .ge 13, 3) := by decide +kernel
theorem dX8_unitOf_21 : decode cX8_unitOf 21 = .ok (.new 126, 3) := by decide +kernel
theorem dX8_unitOf_24 : decode cX8_unitOf 24 = .ok (.dup, 1) := by decide +kernel
theorem dX8_unitOf_25 : decode cX8_unitOf 25 = .ok (.ldc 244, 2) := by decide +kernel
theorem dX8_unitOf_27 : decode cX8_unitOf 27 = .ok (.invokespecial 130, 3) := by decide +kernel
theorem dX8_unitOf_30 : decode cX8_unitOf 30 = .ok (.athrow, 1) := by decide +kernel
theorem dX8_unitOf_31 : decode cX8_unitOf 31 = .ok (.aload_n 0, 1) := by decide +kernel
theorem dX8_unitOf_32 : decode cX8_unitOf 32 = .ok (.getfield 46, 3) := by decide +kernel
theorem dX8_unitOf_35 : decode cX8_unitOf 35 = .ok (.getfield 241, 3) := by decide +kernel
theorem dX8_unitOf_38 : decode cX8_unitOf 38 = .ok (.iload_n 1, 1) := by decide +kernel
theorem dX8_unitOf_39 : decode cX8_unitOf 39 = .ok (.iaload, 1) := by decide +kernel
theorem dX8_unitOf_40 : decode cX8_unitOf 40 = .ok (.ireturn, 1) := by decide +kernel
theorem dX8_setInput_0 : decode cX8_setInput 0 = .ok (.aload_n 0, 1) := by decide +kernel
theorem dX8_setInput_1 : decode cX8_setInput 1 = .ok (.iload_n 1, 1) := by decide +kernel
theorem dX8_setInput_2 : decode cX8_setInput 2 = .ok (.invokevirtual 135, 3) := by decide +kernel
theorem dX8_setInput_5 : decode cX8_setInput 5 = .ok (.aload_n 0, 1) := by decide +kernel
theorem dX8_setInput_6 : decode cX8_setInput 6 = .ok (.getfield 10, 3) := by decide +kernel
theorem dX8_setInput_9 : decode cX8_setInput 9 = .ok (.getfield 139, 3) := by decide +kernel
theorem dX8_setInput_12 : decode cX8_setInput 12 = .ok (.iload_n 1, 1) := by decide +kernel
theorem dX8_setInput_13 : decode cX8_setInput 13 = .ok (.iaload, 1) := by decide +kernel
theorem dX8_setInput_14 : decode cX8_setInput 14 = .ok (.ifCond .eq 13, 3) := by decide +kernel
theorem dX8_setInput_17 : decode cX8_setInput 17 = .ok (.new 143, 3) := by decide +kernel
theorem dX8_setInput_20 : decode cX8_setInput 20 = .ok (.dup, 1) := by decide +kernel
theorem dX8_setInput_21 : decode cX8_setInput 21 = .ok (.ldc 246, 2) := by decide +kernel
theorem dX8_setInput_23 : decode cX8_setInput 23 = .ok (.invokespecial 147, 3) := by decide +kernel
theorem dX8_setInput_26 : decode cX8_setInput 26 = .ok (.athrow, 1) := by decide +kernel
theorem dX8_setInput_27 : decode cX8_setInput 27 = .ok (.iload_n 2, 1) := by decide +kernel
theorem dX8_setInput_28 : decode cX8_setInput 28 = .ok (.aload_n 0, 1) := by decide +kernel
theorem dX8_setInput_29 : decode cX8_setInput 29 = .ok (.getfield 10, 3) := by decide +kernel
theorem dX8_setInput_32 : decode cX8_setInput 32 = .ok (.getfield 160, 3) := by decide +kernel
theorem dX8_setInput_35 : decode cX8_setInput 35 = .ok (.iload_n 1, 1) := by decide +kernel
theorem dX8_setInput_36 : decode cX8_setInput 36 = .ok (.iaload, 1) := by decide +kernel
theorem dX8_setInput_37 : decode cX8_setInput 37 = .ok (.if_icmp .lt 16, 3) := by decide +kernel
theorem dX8_setInput_40 : decode cX8_setInput 40 = .ok (.iload_n 2, 1) := by decide +kernel
theorem dX8_setInput_41 : decode cX8_setInput 41 = .ok (.aload_n 0, 1) := by decide +kernel
theorem dX8_setInput_42 : decode cX8_setInput 42 = .ok (.getfield 10, 3) := by decide +kernel
theorem dX8_setInput_45 : decode cX8_setInput 45 = .ok (.getfield 163, 3) := by decide +kernel
theorem dX8_setInput_48 : decode cX8_setInput 48 = .ok (.iload_n 1, 1) := by decide +kernel
theorem dX8_setInput_49 : decode cX8_setInput 49 = .ok (.iaload, 1) := by decide +kernel
theorem dX8_setInput_50 : decode cX8_setInput 50 = .ok (.if_icmp .le 13, 3) := by decide +kernel
theorem dX8_setInput_53 : decode cX8_setInput 53 = .ok (.new 81, 3) := by decide +kernel
theorem dX8_setInput_56 : decode cX8_setInput 56 = .ok (.dup, 1) := by decide +kernel
theorem dX8_setInput_57 : decode cX8_setInput 57 = .ok (.ldc 248, 2) := by decide +kernel
theorem dX8_setInput_59 : decode cX8_setInput 59 = .ok (.invokespecial 85, 3) := by decide +kernel
theorem dX8_setInput_62 : decode cX8_setInput 62 = .ok (.athrow, 1) := by decide +kernel
theorem dX8_setInput_63 : decode cX8_setInput 63 = .ok (.aload_n 0, 1) := by decide +kernel
theorem dX8_setInput_64 : decode cX8_setInput 64 = .ok (.getfield 10, 3) := by decide +kernel
theorem dX8_setInput_67 : decode cX8_setInput 67 = .ok (.getfield 250, 3) := by decide +kernel
theorem dX8_setInput_70 : decode cX8_setInput 70 = .ok (.iload_n 1, 1) := by decide +kernel
theorem dX8_setInput_71 : decode cX8_setInput 71 = .ok (.iaload, 1) := by decide +kernel
theorem dX8_setInput_72 : decode cX8_setInput 72 = .ok (.istore_n 3, 1) := by decide +kernel
theorem dX8_setInput_73 : decode cX8_setInput 73 = .ok (.aload_n 0, 1) := by decide +kernel
theorem dX8_setInput_74 : decode cX8_setInput 74 = .ok (.getfield 10, 3) := by decide +kernel
theorem dX8_setInput_77 : decode cX8_setInput 77 = .ok (.getfield 250, 3) := by decide +kernel
theorem dX8_setInput_80 : decode cX8_setInput 80 = .ok (.iload_n 1, 1) := by decide +kernel
theorem dX8_setInput_81 : decode cX8_setInput 81 = .ok (.iload_n 2, 1) := by decide +kernel
theorem dX8_setInput_82 : decode cX8_setInput 82 = .ok (.iastore, 1) := by decide +kernel
theorem dX8_setInput_83 : decode cX8_setInput 83 = .ok (.iload_n 3, 1) := by decide +kernel
theorem dX8_setInput_84 : decode cX8_setInput 84 = .ok (.ireturn, 1) := by decide +kernel
theorem dX8_run_0 : decode cX8_run 0 = .ok (.iload_n 1, 1) := by decide +kernel
theorem dX8_run_1 : decode cX8_run 1 = .ok (.iconst 1, 1) := by decide +kernel
theorem dX8_run_2 : decode cX8_run 2 = .ok (.if_icmp .lt 10, 3) := by decide +kernel
theorem dX8_run_5 : decode cX8_run 5 = .ok (.iload_n 1, 1) := by decide +kernel
theorem dX8_run_6 : decode cX8_run 6 = .ok (.sipush 200, 3) := by decide +kernel
theorem dX8_run_9 : decode cX8_run 9 = .ok (.if_icmp .le 13, 3) := by decide +kernel
theorem dX8_run_12 : decode cX8_run 12 = .ok (.new 81, 3) := by decide +kernel
theorem dX8_run_15 : decode cX8_run 15 = .ok (.dup, 1) := by decide +kernel
theorem dX8_run_16 : decode cX8_run 16 = .ok (.ldc 253, 2) := by decide +kernel
theorem dX8_run_18 : decode cX8_run 18 = .ok (.invokespecial 85, 3) := by decide +kernel
theorem dX8_run_21 : decode cX8_run 21 = .ok (.athrow, 1) := by decide +kernel
theorem dX8_run_22 : decode cX8_run 22 = .ok (.aload_n 0, 1) := by decide +kernel
theorem dX8_run_23 : decode cX8_run 23 = .ok (.invokevirtual 171, 3) := by decide +kernel
theorem dX8_run_26 : decode cX8_run 26 = .ok (.iconst 0, 1) := by decide +kernel
theorem dX8_run_27 : decode cX8_run 27 = .ok (.istore_n 2, 1) := by decide +kernel
theorem dX8_run_28 : decode cX8_run 28 = .ok (.iload_n 2, 1) := by decide +kernel
theorem dX8_run_29 : decode cX8_run 29 = .ok (.iload_n 1, 1) := by decide +kernel
theorem dX8_run_30 : decode cX8_run 30 = .ok (.if_icmp .ge 55, 3) := by decide +kernel
theorem dX8_run_33 : decode cX8_run 33 = .ok (.aload_n 0, 1) := by decide +kernel
theorem dX8_run_34 : decode cX8_run 34 = .ok (.invokevirtual 255, 3) := by decide +kernel
theorem dX8_run_37 : decode cX8_run 37 = .ok (.aload_n 0, 1) := by decide +kernel
theorem dX8_run_38 : decode cX8_run 38 = .ok (.getfield 10, 3) := by decide +kernel
theorem dX8_run_41 : decode cX8_run 41 = .ok (.aload_n 0, 1) := by decide +kernel
theorem dX8_run_42 : decode cX8_run 42 = .ok (.getfield 10, 3) := by decide +kernel
theorem dX8_run_45 : decode cX8_run 45 = .ok (.getfield 258, 3) := by decide +kernel
theorem dX8_run_48 : decode cX8_run 48 = .ok (.aload_n 0, 1) := by decide +kernel
theorem dX8_run_49 : decode cX8_run 49 = .ok (.getfield 53, 3) := by decide +kernel
theorem dX8_run_52 : decode cX8_run 52 = .ok (.getfield 261, 3) := by decide +kernel
theorem dX8_run_55 : decode cX8_run 55 = .ok (.invokevirtual 264, 3) := by decide +kernel
theorem dX8_run_58 : decode cX8_run 58 = .ok (.aload_n 0, 1) := by decide +kernel
theorem dX8_run_59 : decode cX8_run 59 = .ok (.getfield 10, 3) := by decide +kernel
theorem dX8_run_62 : decode cX8_run 62 = .ok (.aload_n 0, 1) := by decide +kernel
theorem dX8_run_63 : decode cX8_run 63 = .ok (.getfield 10, 3) := by decide +kernel
theorem dX8_run_66 : decode cX8_run 66 = .ok (.getfield 268, 3) := by decide +kernel
theorem dX8_run_69 : decode cX8_run 69 = .ok (.aload_n 0, 1) := by decide +kernel
theorem dX8_run_70 : decode cX8_run 70 = .ok (.getfield 57, 3) := by decide +kernel
theorem dX8_run_73 : decode cX8_run 73 = .ok (.getfield 261, 3) := by decide +kernel
theorem dX8_run_76 : decode cX8_run 76 = .ok (.invokevirtual 264, 3) := by decide +kernel
theorem dX8_run_79 : decode cX8_run 79 = .ok (.iinc 2 1, 3) := by decide +kernel
theorem dX8_run_82 : decode cX8_run 82 = .ok (.goto (-54), 3) := by decide +kernel
theorem dX8_run_85 : decode cX8_run 85 = .ok (.aload_n 0, 1) := by decide +kernel
theorem dX8_run_86 : decode cX8_run 86 = .ok (.getfield 10, 3) := by decide +kernel
theorem dX8_run_89 : decode cX8_run 89 = .ok (.dup, 1) := by decide +kernel
theorem dX8_run_90 : decode cX8_run 90 = .ok (.getfield 271, 3) := by decide +kernel
theorem dX8_run_93 : decode cX8_run 93 = .ok (.iload_n 1, 1) := by decide +kernel
theorem dX8_run_94 : decode cX8_run 94 = .ok (.iadd, 1) := by decide +kernel
theorem dX8_run_95 : decode cX8_run 95 = .ok (.putfield 271, 3) := by decide +kernel
theorem dX8_run_98 : decode cX8_run 98 = .ok (.aload_n 0, 1) := by decide +kernel
theorem dX8_run_99 : decode cX8_run 99 = .ok (.invokevirtual 255, 3) := by decide +kernel
theorem dX8_run_102 : decode cX8_run 102 = .ok (.aload_n 0, 1) := by decide +kernel
theorem dX8_run_103 : decode cX8_run 103 = .ok (.invokevirtual 274, 3) := by decide +kernel
theorem dX8_run_106 : decode cX8_run 106 = .ok (.ireturn, 1) := by decide +kernel
theorem dX8_value_0 : decode cX8_value 0 = .ok (.aload_n 0, 1) := by decide +kernel
theorem dX8_value_1 : decode cX8_value 1 = .ok (.iload_n 1, 1) := by decide +kernel
theorem dX8_value_2 : decode cX8_value 2 = .ok (.invokevirtual 135, 3) := by decide +kernel
theorem dX8_value_5 : decode cX8_value 5 = .ok (.aload_n 0, 1) := by decide +kernel
theorem dX8_value_6 : decode cX8_value 6 = .ok (.invokevirtual 171, 3) := by decide +kernel
theorem dX8_value_9 : decode cX8_value 9 = .ok (.aload_n 0, 1) := by decide +kernel
theorem dX8_value_10 : decode cX8_value 10 = .ok (.invokevirtual 255, 3) := by decide +kernel
theorem dX8_value_13 : decode cX8_value 13 = .ok (.iload_n 2, 1) := by decide +kernel
theorem dX8_value_14 : decode cX8_value 14 = .ok (.ifCond .eq 15, 3) := by decide +kernel
theorem dX8_value_17 : decode cX8_value 17 = .ok (.aload_n 0, 1) := by decide +kernel
theorem dX8_value_18 : decode cX8_value 18 = .ok (.getfield 57, 3) := by decide +kernel
theorem dX8_value_21 : decode cX8_value 21 = .ok (.getfield 261, 3) := by decide +kernel
theorem dX8_value_24 : decode cX8_value 24 = .ok (.iload_n 1, 1) := by decide +kernel
theorem dX8_value_25 : decode cX8_value 25 = .ok (.iaload, 1) := by decide +kernel
theorem dX8_value_26 : decode cX8_value 26 = .ok (.goto 12, 3) := by decide +kernel
theorem dX8_value_29 : decode cX8_value 29 = .ok (.aload_n 0, 1) := by decide +kernel
theorem dX8_value_30 : decode cX8_value 30 = .ok (.getfield 53, 3) := by decide +kernel
theorem dX8_value_33 : decode cX8_value 33 = .ok (.getfield 261, 3) := by decide +kernel
theorem dX8_value_36 : decode cX8_value 36 = .ok (.iload_n 1, 1) := by decide +kernel
theorem dX8_value_37 : decode cX8_value 37 = .ok (.iaload, 1) := by decide +kernel
theorem dX8_value_38 : decode cX8_value 38 = .ok (.ireturn, 1) := by decide +kernel
theorem dX8_restart_0 : decode cX8_restart 0 = .ok (.aload_n 0, 1) := by decide +kernel
theorem dX8_restart_1 : decode cX8_restart 1 = .ok (.getfield 10, 3) := by decide +kernel
theorem dX8_restart_4 : decode cX8_restart 4 = .ok (.getfield 271, 3) := by decide +kernel
theorem dX8_restart_7 : decode cX8_restart 7 = .ok (.istore_n 1, 1) := by decide +kernel
theorem dX8_restart_8 : decode cX8_restart 8 = .ok (.aload_n 0, 1) := by decide +kernel
theorem dX8_restart_9 : decode cX8_restart 9 = .ok (.getfield 10, 3) := by decide +kernel
theorem dX8_restart_12 : decode cX8_restart 12 = .ok (.invokevirtual 277, 3) := by decide +kernel
theorem dX8_restart_15 : decode cX8_restart 15 = .ok (.iload_n 1, 1) := by decide +kernel
theorem dX8_restart_16 : decode cX8_restart 16 = .ok (.ireturn, 1) := by decide +kernel
theorem dX8_feed_0 : decode cX8_feed 0 = .ok (.aload_n 0, 1) := by decide +kernel
theorem dX8_feed_1 : decode cX8_feed 1 = .ok (.getfield 63, 3) := by decide +kernel
theorem dX8_feed_4 : decode cX8_feed 4 = .ok (.getfield 280, 3) := by decide +kernel
theorem dX8_feed_7 : decode cX8_feed 7 = .ok (.bipush 80, 2) := by decide +kernel
theorem dX8_feed_9 : decode cX8_feed 9 = .ok (.if_icmp .lt 14, 3) := by decide +kernel
theorem dX8_feed_12 : decode cX8_feed 12 = .ok (.new 114, 3) := by decide +kernel
theorem dX8_feed_15 : decode cX8_feed 15 = .ok (.dup, 1) := by decide +kernel
theorem dX8_feed_16 : decode cX8_feed 16 = .ok (.ldc_w 283, 3) := by decide +kernel
theorem dX8_feed_19 : decode cX8_feed 19 = .ok (.invokespecial 118, 3) := by decide +kernel
theorem dX8_feed_22 : decode cX8_feed 22 = .ok (.athrow, 1) := by decide +kernel
theorem dX8_feed_23 : decode cX8_feed 23 = .ok (.aload_n 0, 1) := by decide +kernel
theorem dX8_feed_24 : decode cX8_feed 24 = .ok (.getfield 63, 3) := by decide +kernel
theorem dX8_feed_27 : decode cX8_feed 27 = .ok (.iload_n 1, 1) := by decide +kernel
theorem dX8_feed_28 : decode cX8_feed 28 = .ok (.invokevirtual 285, 3) := by decide +kernel
theorem dX8_feed_31 : decode cX8_feed 31 = .ok (.ireturn, 1) := by decide +kernel
theorem dX8_read_0 : decode cX8_read 0 = .ok (.aload_n 0, 1) := by decide +kernel
theorem dX8_read_1 : decode cX8_read 1 = .ok (.getfield 70, 3) := by decide +kernel
theorem dX8_read_4 : decode cX8_read 4 = .ok (.invokevirtual 288, 3) := by decide +kernel
theorem dX8_read_7 : decode cX8_read 7 = .ok (.aload_n 0, 1) := by decide +kernel
theorem dX8_read_8 : decode cX8_read 8 = .ok (.getfield 63, 3) := by decide +kernel
theorem dX8_read_11 : decode cX8_read 11 = .ok (.invokevirtual 291, 3) := by decide +kernel
theorem dX8_read_14 : decode cX8_read 14 = .ok (.istore_n 1, 1) := by decide +kernel
theorem dX8_read_15 : decode cX8_read 15 = .ok (.aload_n 0, 1) := by decide +kernel
theorem dX8_read_16 : decode cX8_read 16 = .ok (.getfield 63, 3) := by decide +kernel
theorem dX8_read_19 : decode cX8_read 19 = .ok (.iconst 0, 1) := by decide +kernel
theorem dX8_read_20 : decode cX8_read 20 = .ok (.putfield 280, 3) := by decide +kernel
theorem dX8_read_23 : decode cX8_read 23 = .ok (.iload_n 1, 1) := by decide +kernel
theorem dX8_read_24 : decode cX8_read 24 = .ok (.ifCond .ne 27, 3) := by decide +kernel
theorem dX8_read_27 : decode cX8_read 27 = .ok (.aload_n 0, 1) := by decide +kernel
theorem dX8_read_28 : decode cX8_read 28 = .ok (.getfield 70, 3) := by decide +kernel
theorem dX8_read_31 : decode cX8_read 31 = .ok (.aload_n 0, 1) := by decide +kernel
theorem dX8_read_32 : decode cX8_read 32 = .ok (.getfield 63, 3) := by decide +kernel
theorem dX8_read_35 : decode cX8_read 35 = .ok (.getfield 294, 3) := by decide +kernel
theorem dX8_read_38 : decode cX8_read 38 = .ok (.iconst 2, 1) := by decide +kernel
theorem dX8_read_39 : decode cX8_read 39 = .ok (.aload_n 0, 1) := by decide +kernel
theorem dX8_read_40 : decode cX8_read 40 = .ok (.getfield 63, 3) := by decide +kernel
theorem dX8_read_43 : decode cX8_read 43 = .ok (.getfield 297, 3) := by decide +kernel
theorem dX8_read_46 : decode cX8_read 46 = .ok (.invokevirtual 300, 3) := by decide +kernel
theorem dX8_read_49 : decode cX8_read 49 = .ok (.iconst (-1), 1) := by decide +kernel
theorem dX8_read_50 : decode cX8_read 50 = .ok (.ireturn, 1) := by decide +kernel
theorem dX8_read_51 : decode cX8_read 51 = .ok (.aload_n 0, 1) := by decide +kernel
theorem dX8_read_52 : decode cX8_read 52 = .ok (.getfield 19, 3) := by decide +kernel
theorem dX8_read_55 : decode cX8_read 55 = .ok (.aload_n 0, 1) := by decide +kernel
theorem dX8_read_56 : decode cX8_read 56 = .ok (.getfield 10, 3) := by decide +kernel
theorem dX8_read_59 : decode cX8_read 59 = .ok (.invokevirtual 303, 3) := by decide +kernel
theorem dX8_read_62 : decode cX8_read 62 = .ok (.iconst 0, 1) := by decide +kernel
theorem dX8_read_63 : decode cX8_read 63 = .ok (.istore_n 2, 1) := by decide +kernel
theorem dX8_read_64 : decode cX8_read 64 = .ok (.iload_n 2, 1) := by decide +kernel
theorem dX8_read_65 : decode cX8_read 65 = .ok (.aload_n 0, 1) := by decide +kernel
theorem dX8_read_66 : decode cX8_read 66 = .ok (.getfield 63, 3) := by decide +kernel
theorem dX8_read_69 : decode cX8_read 69 = .ok (.getfield 294, 3) := by decide +kernel
theorem dX8_read_72 : decode cX8_read 72 = .ok (.if_icmp .ge 39, 3) := by decide +kernel
theorem dX8_read_75 : decode cX8_read 75 = .ok (.aload_n 0, 1) := by decide +kernel
theorem dX8_read_76 : decode cX8_read 76 = .ok (.aload_n 0, 1) := by decide +kernel
theorem dX8_read_77 : decode cX8_read 77 = .ok (.getfield 63, 3) := by decide +kernel
theorem dX8_read_80 : decode cX8_read 80 = .ok (.getfield 307, 3) := by decide +kernel
theorem dX8_read_83 : decode cX8_read 83 = .ok (.iload_n 2, 1) := by decide +kernel
theorem dX8_read_84 : decode cX8_read 84 = .ok (.aaload, 1) := by decide +kernel
theorem dX8_read_85 : decode cX8_read 85 = .ok (.iload_n 2, 1) := by decide +kernel
theorem dX8_read_86 : decode cX8_read 86 = .ok (.invokevirtual 311, 3) := by decide +kernel
theorem dX8_read_89 : decode cX8_read 89 = .ok (.ifCond .ne 16, 3) := by decide +kernel
theorem dX8_read_92 : decode cX8_read 92 = .ok (.aload_n 0, 1) := by decide +kernel
theorem dX8_read_93 : decode cX8_read 93 = .ok (.getfield 10, 3) := by decide +kernel
theorem dX8_read_96 : decode cX8_read 96 = .ok (.aload_n 0, 1) := by decide +kernel
theorem dX8_read_97 : decode cX8_read 97 = .ok (.getfield 19, 3) := by decide +kernel
theorem dX8_read_100 : decode cX8_read 100 = .ok (.invokevirtual 303, 3) := by decide +kernel
theorem dX8_read_103 : decode cX8_read 103 = .ok (.iconst (-1), 1) := by decide +kernel
theorem dX8_read_104 : decode cX8_read 104 = .ok (.ireturn, 1) := by decide +kernel
theorem dX8_read_105 : decode cX8_read 105 = .ok (.iinc 2 1, 3) := by decide +kernel
theorem dX8_read_108 : decode cX8_read 108 = .ok (.goto (-44), 3) := by decide +kernel
theorem dX8_read_111 : decode cX8_read 111 = .ok (.aload_n 0, 1) := by decide +kernel
theorem dX8_read_112 : decode cX8_read 112 = .ok (.invokevirtual 123, 3) := by decide +kernel
theorem dX8_read_115 : decode cX8_read 115 = .ok (.aload_n 0, 1) := by decide +kernel
theorem dX8_read_116 : decode cX8_read 116 = .ok (.getfield 63, 3) := by decide +kernel
theorem dX8_read_119 : decode cX8_read 119 = .ok (.getfield 294, 3) := by decide +kernel
theorem dX8_read_122 : decode cX8_read 122 = .ok (.ireturn, 1) := by decide +kernel
theorem dX8_fault_0 : decode cX8_fault 0 = .ok (.iload_n 1, 1) := by decide +kernel
theorem dX8_fault_1 : decode cX8_fault 1 = .ok (.ifCond .lt 12, 3) := by decide +kernel
theorem dX8_fault_4 : decode cX8_fault 4 = .ok (.iload_n 2, 1) := by decide +kernel
theorem dX8_fault_5 : decode cX8_fault 5 = .ok (.ifCond .lt 8, 3) := by decide +kernel
theorem dX8_fault_8 : decode cX8_fault 8 = .ok (.iload_n 2, 1) := by decide +kernel
theorem dX8_fault_9 : decode cX8_fault 9 = .ok (.iconst 1, 1) := by decide +kernel
theorem dX8_fault_10 : decode cX8_fault 10 = .ok (.if_icmp .le 14, 3) := by decide +kernel
theorem dX8_fault_13 : decode cX8_fault 13 = .ok (.new 81, 3) := by decide +kernel
theorem dX8_fault_16 : decode cX8_fault 16 = .ok (.dup, 1) := by decide +kernel
theorem dX8_fault_17 : decode cX8_fault 17 = .ok (.ldc_w 315, 3) := by decide +kernel
theorem dX8_fault_20 : decode cX8_fault 20 = .ok (.invokespecial 85, 3) := by decide +kernel
theorem dX8_fault_23 : decode cX8_fault 23 = .ok (.athrow, 1) := by decide +kernel
theorem dX8_fault_24 : decode cX8_fault 24 = .ok (.iload_n 1, 1) := by decide +kernel
theorem dX8_fault_25 : decode cX8_fault 25 = .ok (.aload_n 0, 1) := by decide +kernel
theorem dX8_fault_26 : decode cX8_fault 26 = .ok (.getfield 70, 3) := by decide +kernel
theorem dX8_fault_29 : decode cX8_fault 29 = .ok (.getfield 317, 3) := by decide +kernel
theorem dX8_fault_32 : decode cX8_fault 32 = .ok (.if_icmp .lt 14, 3) := by decide +kernel
theorem dX8_fault_35 : decode cX8_fault 35 = .ok (.new 126, 3) := by decide +kernel
theorem dX8_fault_38 : decode cX8_fault 38 = .ok (.dup, 1) := by decide +kernel
theorem dX8_fault_39 : decode cX8_fault 39 = .ok (.ldc_w 320, 3) := by decide +kernel
theorem dX8_fault_42 : decode cX8_fault 42 = .ok (.invokespecial 130, 3) := by decide +kernel
theorem dX8_fault_45 : decode cX8_fault 45 = .ok (.athrow, 1) := by decide +kernel
theorem dX8_fault_46 : decode cX8_fault 46 = .ok (.iload_n 2, 1) := by decide +kernel
theorem dX8_fault_47 : decode cX8_fault 47 = .ok (.ifCond .ne 15, 3) := by decide +kernel
theorem dX8_fault_50 : decode cX8_fault 50 = .ok (.aload_n 0, 1) := by decide +kernel
theorem dX8_fault_51 : decode cX8_fault 51 = .ok (.getfield 70, 3) := by decide +kernel
theorem dX8_fault_54 : decode cX8_fault 54 = .ok (.getfield 322, 3) := by decide +kernel
theorem dX8_fault_57 : decode cX8_fault 57 = .ok (.iload_n 1, 1) := by decide +kernel
theorem dX8_fault_58 : decode cX8_fault 58 = .ok (.iaload, 1) := by decide +kernel
theorem dX8_fault_59 : decode cX8_fault 59 = .ok (.goto 12, 3) := by decide +kernel
theorem dX8_fault_62 : decode cX8_fault 62 = .ok (.aload_n 0, 1) := by decide +kernel
theorem dX8_fault_63 : decode cX8_fault 63 = .ok (.getfield 70, 3) := by decide +kernel
theorem dX8_fault_66 : decode cX8_fault 66 = .ok (.getfield 323, 3) := by decide +kernel
theorem dX8_fault_69 : decode cX8_fault 69 = .ok (.iload_n 1, 1) := by decide +kernel
theorem dX8_fault_70 : decode cX8_fault 70 = .ok (.iaload, 1) := by decide +kernel
theorem dX8_fault_71 : decode cX8_fault 71 = .ok (.ireturn, 1) := by decide +kernel
theorem dX8_saveSnapshot_0 : decode cX8_saveSnapshot 0 = .ok (.aload_n 0, 1) := by decide +kernel
theorem dX8_saveSnapshot_1 : decode cX8_saveSnapshot 1 = .ok (.getfield 16, 3) := by decide +kernel
theorem dX8_saveSnapshot_4 : decode cX8_saveSnapshot 4 = .ok (.aload_n 0, 1) := by decide +kernel
theorem dX8_saveSnapshot_5 : decode cX8_saveSnapshot 5 = .ok (.getfield 10, 3) := by decide +kernel
theorem dX8_saveSnapshot_8 : decode cX8_saveSnapshot 8 = .ok (.invokevirtual 303, 3) := by decide +kernel
theorem dX8_saveSnapshot_11 : decode cX8_saveSnapshot 11 = .ok (.aload_n 0, 1) := by decide +kernel
theorem dX8_saveSnapshot_12 : decode cX8_saveSnapshot 12 = .ok (.iconst 1, 1) := by decide +kernel
theorem dX8_saveSnapshot_13 : decode cX8_saveSnapshot 13 = .ok (.putfield 74, 3) := by decide +kernel
theorem dX8_saveSnapshot_16 : decode cX8_saveSnapshot 16 = .ok (.aload_n 0, 1) := by decide +kernel
theorem dX8_saveSnapshot_17 : decode cX8_saveSnapshot 17 = .ok (.getfield 10, 3) := by decide +kernel
theorem dX8_saveSnapshot_20 : decode cX8_saveSnapshot 20 = .ok (.getfield 98, 3) := by decide +kernel
theorem dX8_saveSnapshot_23 : decode cX8_saveSnapshot 23 = .ok (.ireturn, 1) := by decide +kernel
theorem dX8_restoreSnapshot_0 : decode cX8_restoreSnapshot 0 = .ok (.aload_n 0, 1) := by decide +kernel
theorem dX8_restoreSnapshot_1 : decode cX8_restoreSnapshot 1 = .ok (.getfield 74, 3) := by decide +kernel
theorem dX8_restoreSnapshot_4 : decode cX8_restoreSnapshot 4 = .ok (.ifCond .ne 14, 3) := by decide +kernel
theorem dX8_restoreSnapshot_7 : decode cX8_restoreSnapshot 7 = .ok (.new 114, 3) := by decide +kernel
theorem dX8_restoreSnapshot_10 : decode cX8_restoreSnapshot 10 = .ok (.dup, 1) := by decide +kernel
theorem dX8_restoreSnapshot_11 : decode cX8_restoreSnapshot 11 = .ok (.ldc_w 326, 3) := by decide +kernel
theorem dX8_restoreSnapshot_14 : decode cX8_restoreSnapshot 14 = .ok (.invokespecial 118, 3) := by decide +kernel
theorem dX8_restoreSnapshot_17 : decode cX8_restoreSnapshot 17 = .ok (.athrow, 1) := by decide +kernel
theorem dX8_restoreSnapshot_18 : decode cX8_restoreSnapshot 18 = .ok (.aload_n 0, 1) := by decide +kernel
theorem dX8_restoreSnapshot_19 : decode cX8_restoreSnapshot 19 = .ok (.getfield 10, 3) := by decide +kernel
theorem dX8_restoreSnapshot_22 : decode cX8_restoreSnapshot 22 = .ok (.aload_n 0, 1) := by decide +kernel
theorem dX8_restoreSnapshot_23 : decode cX8_restoreSnapshot 23 = .ok (.getfield 16, 3) := by decide +kernel
theorem dX8_restoreSnapshot_26 : decode cX8_restoreSnapshot 26 = .ok (.invokevirtual 303, 3) := by decide +kernel
theorem dX8_restoreSnapshot_29 : decode cX8_restoreSnapshot 29 = .ok (.aload_n 0, 1) := by decide +kernel
theorem dX8_restoreSnapshot_30 : decode cX8_restoreSnapshot 30 = .ok (.iconst 0, 1) := by decide +kernel
theorem dX8_restoreSnapshot_31 : decode cX8_restoreSnapshot 31 = .ok (.putfield 78, 3) := by decide +kernel
theorem dX8_restoreSnapshot_34 : decode cX8_restoreSnapshot 34 = .ok (.aload_n 0, 1) := by decide +kernel
theorem dX8_restoreSnapshot_35 : decode cX8_restoreSnapshot 35 = .ok (.getfield 10, 3) := by decide +kernel
theorem dX8_restoreSnapshot_38 : decode cX8_restoreSnapshot 38 = .ok (.getfield 98, 3) := by decide +kernel
theorem dX8_restoreSnapshot_41 : decode cX8_restoreSnapshot 41 = .ok (.ireturn, 1) := by decide +kernel
theorem dX8_requireSignal_0 : decode cX8_requireSignal 0 = .ok (.aload_n 0, 1) := by decide +kernel
theorem dX8_requireSignal_1 : decode cX8_requireSignal 1 = .ok (.getfield 10, 3) := by decide +kernel
theorem dX8_requireSignal_4 : decode cX8_requireSignal 4 = .ok (.iload_n 1, 1) := by decide +kernel
theorem dX8_requireSignal_5 : decode cX8_requireSignal 5 = .ok (.invokevirtual 328, 3) := by decide +kernel
theorem dX8_requireSignal_8 : decode cX8_requireSignal 8 = .ok (.ifCond .ne 14, 3) := by decide +kernel
theorem dX8_requireSignal_11 : decode cX8_requireSignal 11 = .ok (.new 106, 3) := by decide +kernel
theorem dX8_requireSignal_14 : decode cX8_requireSignal 14 = .ok (.dup, 1) := by decide +kernel
theorem dX8_requireSignal_15 : decode cX8_requireSignal 15 = .ok (.ldc_w 331, 3) := by decide +kernel
theorem dX8_requireSignal_18 : decode cX8_requireSignal 18 = .ok (.invokespecial 110, 3) := by decide +kernel
theorem dX8_requireSignal_21 : decode cX8_requireSignal 21 = .ok (.athrow, 1) := by decide +kernel
theorem dX8_requireSignal_22 : decode cX8_requireSignal 22 = .ok (.return_, 1) := by decide +kernel
theorem dX8_beginAnew_0 : decode cX8_beginAnew 0 = .ok (.aload_n 0, 1) := by decide +kernel
theorem dX8_beginAnew_1 : decode cX8_beginAnew 1 = .ok (.getfield 10, 3) := by decide +kernel
theorem dX8_beginAnew_4 : decode cX8_beginAnew 4 = .ok (.invokevirtual 277, 3) := by decide +kernel
theorem dX8_beginAnew_7 : decode cX8_beginAnew 7 = .ok (.aload_n 0, 1) := by decide +kernel
theorem dX8_beginAnew_8 : decode cX8_beginAnew 8 = .ok (.iconst 0, 1) := by decide +kernel
theorem dX8_beginAnew_9 : decode cX8_beginAnew 9 = .ok (.putfield 78, 3) := by decide +kernel
theorem dX8_beginAnew_12 : decode cX8_beginAnew 12 = .ok (.return_, 1) := by decide +kernel
theorem dX8_analyse_0 : decode cX8_analyse 0 = .ok (.aload_n 0, 1) := by decide +kernel
theorem dX8_analyse_1 : decode cX8_analyse 1 = .ok (.getfield 78, 3) := by decide +kernel
theorem dX8_analyse_4 : decode cX8_analyse 4 = .ok (.ifCond .eq 4, 3) := by decide +kernel
theorem dX8_analyse_7 : decode cX8_analyse 7 = .ok (.return_, 1) := by decide +kernel
theorem dX8_analyse_8 : decode cX8_analyse 8 = .ok (.aload_n 0, 1) := by decide +kernel
theorem dX8_analyse_9 : decode cX8_analyse 9 = .ok (.getfield 32, 3) := by decide +kernel
theorem dX8_analyse_12 : decode cX8_analyse 12 = .ok (.aload_n 0, 1) := by decide +kernel
theorem dX8_analyse_13 : decode cX8_analyse 13 = .ok (.getfield 10, 3) := by decide +kernel
theorem dX8_analyse_16 : decode cX8_analyse 16 = .ok (.invokevirtual 333, 3) := by decide +kernel
theorem dX8_analyse_19 : decode cX8_analyse 19 = .ok (.aload_n 0, 1) := by decide +kernel
theorem dX8_analyse_20 : decode cX8_analyse 20 = .ok (.getfield 39, 3) := by decide +kernel
theorem dX8_analyse_23 : decode cX8_analyse 23 = .ok (.aload_n 0, 1) := by decide +kernel
theorem dX8_analyse_24 : decode cX8_analyse 24 = .ok (.getfield 10, 3) := by decide +kernel
theorem dX8_analyse_27 : decode cX8_analyse 27 = .ok (.aload_n 0, 1) := by decide +kernel
theorem dX8_analyse_28 : decode cX8_analyse 28 = .ok (.getfield 32, 3) := by decide +kernel
theorem dX8_analyse_31 : decode cX8_analyse 31 = .ok (.invokevirtual 336, 3) := by decide +kernel
theorem dX8_analyse_34 : decode cX8_analyse 34 = .ok (.aload_n 0, 1) := by decide +kernel
theorem dX8_analyse_35 : decode cX8_analyse 35 = .ok (.getfield 46, 3) := by decide +kernel
theorem dX8_analyse_38 : decode cX8_analyse 38 = .ok (.aload_n 0, 1) := by decide +kernel
theorem dX8_analyse_39 : decode cX8_analyse 39 = .ok (.getfield 10, 3) := by decide +kernel
theorem dX8_analyse_42 : decode cX8_analyse 42 = .ok (.aload_n 0, 1) := by decide +kernel
theorem dX8_analyse_43 : decode cX8_analyse 43 = .ok (.getfield 39, 3) := by decide +kernel
theorem dX8_analyse_46 : decode cX8_analyse 46 = .ok (.invokevirtual 339, 3) := by decide +kernel
theorem dX8_analyse_49 : decode cX8_analyse 49 = .ok (.aload_n 0, 1) := by decide +kernel
theorem dX8_analyse_50 : decode cX8_analyse 50 = .ok (.iconst 1, 1) := by decide +kernel
theorem dX8_analyse_51 : decode cX8_analyse 51 = .ok (.putfield 78, 3) := by decide +kernel
theorem dX8_analyse_54 : decode cX8_analyse 54 = .ok (.return_, 1) := by decide +kernel
theorem dX8_fullCost_0 : decode cX8_fullCost 0 = .ok (.iconst 0, 1) := by decide +kernel
theorem dX8_fullCost_1 : decode cX8_fullCost 1 = .ok (.istore_n 1, 1) := by decide +kernel
theorem dX8_fullCost_2 : decode cX8_fullCost 2 = .ok (.iconst 0, 1) := by decide +kernel
theorem dX8_fullCost_3 : decode cX8_fullCost 3 = .ok (.istore_n 2, 1) := by decide +kernel
theorem dX8_fullCost_4 : decode cX8_fullCost 4 = .ok (.iload_n 2, 1) := by decide +kernel
theorem dX8_fullCost_5 : decode cX8_fullCost 5 = .ok (.aload_n 0, 1) := by decide +kernel
theorem dX8_fullCost_6 : decode cX8_fullCost 6 = .ok (.getfield 10, 3) := by decide +kernel
theorem dX8_fullCost_9 : decode cX8_fullCost 9 = .ok (.getfield 98, 3) := by decide +kernel
theorem dX8_fullCost_12 : decode cX8_fullCost 12 = .ok (.if_icmp .ge 26, 3) := by decide +kernel
theorem dX8_fullCost_15 : decode cX8_fullCost 15 = .ok (.iload_n 1, 1) := by decide +kernel
theorem dX8_fullCost_16 : decode cX8_fullCost 16 = .ok (.aload_n 0, 1) := by decide +kernel
theorem dX8_fullCost_17 : decode cX8_fullCost 17 = .ok (.getfield 10, 3) := by decide +kernel
theorem dX8_fullCost_20 : decode cX8_fullCost 20 = .ok (.getfield 139, 3) := by decide +kernel
theorem dX8_fullCost_23 : decode cX8_fullCost 23 = .ok (.iload_n 2, 1) := by decide +kernel
theorem dX8_fullCost_24 : decode cX8_fullCost 24 = .ok (.iaload, 1) := by decide +kernel
theorem dX8_fullCost_25 : decode cX8_fullCost 25 = .ok (.bipush 32, 2) := by decide +kernel
theorem dX8_fullCost_27 : decode cX8_fullCost 27 = .ok (.invokestatic 343, 3) := by decide +kernel
theorem dX8_fullCost_30 : decode cX8_fullCost 30 = .ok (.iadd, 1) := by decide +kernel
theorem dX8_fullCost_31 : decode cX8_fullCost 31 = .ok (.istore_n 1, 1) := by decide +kernel
theorem dX8_fullCost_32 : decode cX8_fullCost 32 = .ok (.iinc 2 1, 3) := by decide +kernel
theorem dX8_fullCost_35 : decode cX8_fullCost 35 = .ok (.goto (-31), 3) := by decide +kernel
theorem dX8_fullCost_38 : decode cX8_fullCost 38 = .ok (.iload_n 1, 1) := by decide +kernel
theorem dX8_fullCost_39 : decode cX8_fullCost 39 = .ok (.ireturn, 1) := by decide +kernel
theorem dX8_sharedCost_0 : decode cX8_sharedCost 0 = .ok (.aload_n 0, 1) := by decide +kernel
theorem dX8_sharedCost_1 : decode cX8_sharedCost 1 = .ok (.getfield 46, 3) := by decide +kernel
theorem dX8_sharedCost_4 : decode cX8_sharedCost 4 = .ok (.invokevirtual 347, 3) := by decide +kernel
theorem dX8_sharedCost_7 : decode cX8_sharedCost 7 = .ok (.istore_n 1, 1) := by decide +kernel
theorem dX8_sharedCost_8 : decode cX8_sharedCost 8 = .ok (.iconst 0, 1) := by decide +kernel
theorem dX8_sharedCost_9 : decode cX8_sharedCost 9 = .ok (.istore_n 2, 1) := by decide +kernel
theorem dX8_sharedCost_10 : decode cX8_sharedCost 10 = .ok (.iload_n 2, 1) := by decide +kernel
theorem dX8_sharedCost_11 : decode cX8_sharedCost 11 = .ok (.aload_n 0, 1) := by decide +kernel
theorem dX8_sharedCost_12 : decode cX8_sharedCost 12 = .ok (.getfield 10, 3) := by decide +kernel
theorem dX8_sharedCost_15 : decode cX8_sharedCost 15 = .ok (.getfield 98, 3) := by decide +kernel
theorem dX8_sharedCost_18 : decode cX8_sharedCost 18 = .ok (.if_icmp .ge 36, 3) := by decide +kernel
theorem dX8_sharedCost_21 : decode cX8_sharedCost 21 = .ok (.aload_n 0, 1) := by decide +kernel
theorem dX8_sharedCost_22 : decode cX8_sharedCost 22 = .ok (.getfield 46, 3) := by decide +kernel
theorem dX8_sharedCost_25 : decode cX8_sharedCost 25 = .ok (.getfield 241, 3) := by decide +kernel
theorem dX8_sharedCost_28 : decode cX8_sharedCost 28 = .ok (.iload_n 2, 1) := by decide +kernel
theorem dX8_sharedCost_29 : decode cX8_sharedCost 29 = .ok (.iaload, 1) := by decide +kernel
theorem dX8_sharedCost_30 : decode cX8_sharedCost 30 = .ok (.ifCond .ge 18, 3) := by decide +kernel
theorem dX8_sharedCost_33 : decode cX8_sharedCost 33 = .ok (.iload_n 1, 1) := by decide +kernel
theorem dX8_sharedCost_34 : decode cX8_sharedCost 34 = .ok (.aload_n 0, 1) := by decide +kernel
theorem dX8_sharedCost_35 : decode cX8_sharedCost 35 = .ok (.getfield 39, 3) := by decide +kernel
theorem dX8_sharedCost_38 : decode cX8_sharedCost 38 = .ok (.aload_n 0, 1) := by decide +kernel
theorem dX8_sharedCost_39 : decode cX8_sharedCost 39 = .ok (.getfield 10, 3) := by decide +kernel
theorem dX8_sharedCost_42 : decode cX8_sharedCost 42 = .ok (.iload_n 2, 1) := by decide +kernel
theorem dX8_sharedCost_43 : decode cX8_sharedCost 43 = .ok (.invokevirtual 195, 3) := by decide +kernel
theorem dX8_sharedCost_46 : decode cX8_sharedCost 46 = .ok (.iadd, 1) := by decide +kernel
theorem dX8_sharedCost_47 : decode cX8_sharedCost 47 = .ok (.istore_n 1, 1) := by decide +kernel
theorem dX8_sharedCost_48 : decode cX8_sharedCost 48 = .ok (.iinc 2 1, 3) := by decide +kernel
theorem dX8_sharedCost_51 : decode cX8_sharedCost 51 = .ok (.goto (-41), 3) := by decide +kernel
theorem dX8_sharedCost_54 : decode cX8_sharedCost 54 = .ok (.iload_n 1, 1) := by decide +kernel
theorem dX8_sharedCost_55 : decode cX8_sharedCost 55 = .ok (.ireturn, 1) := by decide +kernel
theorem dX8_settleBoth_0 : decode cX8_settleBoth 0 = .ok (.aload_n 0, 1) := by decide +kernel
theorem dX8_settleBoth_1 : decode cX8_settleBoth 1 = .ok (.getfield 53, 3) := by decide +kernel
theorem dX8_settleBoth_4 : decode cX8_settleBoth 4 = .ok (.aload_n 0, 1) := by decide +kernel
theorem dX8_settleBoth_5 : decode cX8_settleBoth 5 = .ok (.getfield 10, 3) := by decide +kernel
theorem dX8_settleBoth_8 : decode cX8_settleBoth 8 = .ok (.aload_n 0, 1) := by decide +kernel
theorem dX8_settleBoth_9 : decode cX8_settleBoth 9 = .ok (.getfield 10, 3) := by decide +kernel
theorem dX8_settleBoth_12 : decode cX8_settleBoth 12 = .ok (.getfield 258, 3) := by decide +kernel
theorem dX8_settleBoth_15 : decode cX8_settleBoth 15 = .ok (.invokevirtual 349, 3) := by decide +kernel
theorem dX8_settleBoth_18 : decode cX8_settleBoth 18 = .ok (.aload_n 0, 1) := by decide +kernel
theorem dX8_settleBoth_19 : decode cX8_settleBoth 19 = .ok (.getfield 57, 3) := by decide +kernel
theorem dX8_settleBoth_22 : decode cX8_settleBoth 22 = .ok (.aload_n 0, 1) := by decide +kernel
theorem dX8_settleBoth_23 : decode cX8_settleBoth 23 = .ok (.getfield 10, 3) := by decide +kernel
theorem dX8_settleBoth_26 : decode cX8_settleBoth 26 = .ok (.aload_n 0, 1) := by decide +kernel
theorem dX8_settleBoth_27 : decode cX8_settleBoth 27 = .ok (.getfield 10, 3) := by decide +kernel
theorem dX8_settleBoth_30 : decode cX8_settleBoth 30 = .ok (.getfield 268, 3) := by decide +kernel
theorem dX8_settleBoth_33 : decode cX8_settleBoth 33 = .ok (.aload_n 0, 1) := by decide +kernel
theorem dX8_settleBoth_34 : decode cX8_settleBoth 34 = .ok (.getfield 39, 3) := by decide +kernel
theorem dX8_settleBoth_37 : decode cX8_settleBoth 37 = .ok (.invokevirtual 353, 3) := by decide +kernel
theorem dX8_settleBoth_40 : decode cX8_settleBoth 40 = .ok (.return_, 1) := by decide +kernel
theorem dX8_differingOutputs_0 : decode cX8_differingOutputs 0 = .ok (.iconst 0, 1) := by decide +kernel
theorem dX8_differingOutputs_1 : decode cX8_differingOutputs 1 = .ok (.istore_n 1, 1) := by decide +kernel
theorem dX8_differingOutputs_2 : decode cX8_differingOutputs 2 = .ok (.iconst 0, 1) := by decide +kernel
theorem dX8_differingOutputs_3 : decode cX8_differingOutputs 3 = .ok (.istore_n 2, 1) := by decide +kernel
theorem dX8_differingOutputs_4 : decode cX8_differingOutputs 4 = .ok (.iload_n 2, 1) := by decide +kernel
theorem dX8_differingOutputs_5 : decode cX8_differingOutputs 5 = .ok (.aload_n 0, 1) := by decide +kernel
theorem dX8_differingOutputs_6 : decode cX8_differingOutputs 6 = .ok (.getfield 10, 3) := by decide +kernel
theorem dX8_differingOutputs_9 : decode cX8_differingOutputs 9 = .ok (.getfield 98, 3) := by decide +kernel
theorem dX8_differingOutputs_12 : decode cX8_differingOutputs 12 = .ok (.if_icmp .ge 45, 3) := by decide +kernel
theorem dX8_differingOutputs_15 : decode cX8_differingOutputs 15 = .ok (.aload_n 0, 1) := by decide +kernel
theorem dX8_differingOutputs_16 : decode cX8_differingOutputs 16 = .ok (.getfield 10, 3) := by decide +kernel
theorem dX8_differingOutputs_19 : decode cX8_differingOutputs 19 = .ok (.getfield 151, 3) := by decide +kernel
theorem dX8_differingOutputs_22 : decode cX8_differingOutputs 22 = .ok (.iload_n 2, 1) := by decide +kernel
theorem dX8_differingOutputs_23 : decode cX8_differingOutputs 23 = .ok (.baload, 1) := by decide +kernel
theorem dX8_differingOutputs_24 : decode cX8_differingOutputs 24 = .ok (.ifCond .eq 27, 3) := by decide +kernel
theorem dX8_differingOutputs_27 : decode cX8_differingOutputs 27 = .ok (.aload_n 0, 1) := by decide +kernel
theorem dX8_differingOutputs_28 : decode cX8_differingOutputs 28 = .ok (.getfield 53, 3) := by decide +kernel
theorem dX8_differingOutputs_31 : decode cX8_differingOutputs 31 = .ok (.getfield 261, 3) := by decide +kernel
theorem dX8_differingOutputs_34 : decode cX8_differingOutputs 34 = .ok (.iload_n 2, 1) := by decide +kernel
theorem dX8_differingOutputs_35 : decode cX8_differingOutputs 35 = .ok (.iaload, 1) := by decide +kernel
theorem dX8_differingOutputs_36 : decode cX8_differingOutputs 36 = .ok (.aload_n 0, 1) := by decide +kernel
theorem dX8_differingOutputs_37 : decode cX8_differingOutputs 37 = .ok (.getfield 57, 3) := by decide +kernel
theorem dX8_differingOutputs_40 : decode cX8_differingOutputs 40 = .ok (.getfield 261, 3) := by decide +kernel
theorem dX8_differingOutputs_43 : decode cX8_differingOutputs 43 = .ok (.iload_n 2, 1) := by decide +kernel
theorem dX8_differingOutputs_44 : decode cX8_differingOutputs 44 = .ok (.iaload, 1) := by decide +kernel
theorem dX8_differingOutputs_45 : decode cX8_differingOutputs 45 = .ok (.if_icmp .eq 6, 3) := by decide +kernel
theorem dX8_differingOutputs_48 : decode cX8_differingOutputs 48 = .ok (.iinc 1 1, 3) := by decide +kernel
theorem dX8_differingOutputs_51 : decode cX8_differingOutputs 51 = .ok (.iinc 2 1, 3) := by decide +kernel
theorem dX8_differingOutputs_54 : decode cX8_differingOutputs 54 = .ok (.goto (-50), 3) := by decide +kernel
theorem dX8_differingOutputs_57 : decode cX8_differingOutputs 57 = .ok (.iload_n 1, 1) := by decide +kernel
theorem dX8_differingOutputs_58 : decode cX8_differingOutputs 58 = .ok (.ireturn, 1) := by decide +kernel
theorem dX8_carryOut_0 : decode cX8_carryOut 0 = .ok (.aload_n 1, 1) := by decide +kernel
theorem dX8_carryOut_1 : decode cX8_carryOut 1 = .ok (.aload_n 0, 1) := by decide +kernel
theorem dX8_carryOut_2 : decode cX8_carryOut 2 = .ok (.getfield 10, 3) := by decide +kernel
theorem dX8_carryOut_5 : decode cX8_carryOut 5 = .ok (.getfield 98, 3) := by decide +kernel
theorem dX8_carryOut_8 : decode cX8_carryOut 8 = .ok (.invokevirtual 357, 3) := by decide +kernel
theorem dX8_carryOut_11 : decode cX8_carryOut 11 = .ok (.istore_n 3, 1) := by decide +kernel
theorem dX8_carryOut_12 : decode cX8_carryOut 12 = .ok (.iload_n 3, 1) := by decide +kernel
theorem dX8_carryOut_13 : decode cX8_carryOut 13 = .ok (.ifCond .lt 27, 3) := by decide +kernel
theorem dX8_carryOut_16 : decode cX8_carryOut 16 = .ok (.aload_n 1, 1) := by decide +kernel
theorem dX8_carryOut_17 : decode cX8_carryOut 17 = .ok (.iload_n 3, 1) := by decide +kernel
theorem dX8_carryOut_18 : decode cX8_carryOut 18 = .ok (.invokevirtual 360, 3) := by decide +kernel
theorem dX8_carryOut_21 : decode cX8_carryOut 21 = .ok (.istore 4, 2) := by decide +kernel
theorem dX8_carryOut_23 : decode cX8_carryOut 23 = .ok (.aload_n 0, 1) := by decide +kernel
theorem dX8_carryOut_24 : decode cX8_carryOut 24 = .ok (.iload_n 2, 1) := by decide +kernel
theorem dX8_carryOut_25 : decode cX8_carryOut 25 = .ok (.iload 4, 2) := by decide +kernel
theorem dX8_carryOut_27 : decode cX8_carryOut 27 = .ok (.ifCond .eq 7, 3) := by decide +kernel
theorem dX8_carryOut_30 : decode cX8_carryOut 30 = .ok (.iconst 4, 1) := by decide +kernel
theorem dX8_carryOut_31 : decode cX8_carryOut 31 = .ok (.goto 4, 3) := by decide +kernel
theorem dX8_carryOut_34 : decode cX8_carryOut 34 = .ok (.iconst 5, 1) := by decide +kernel
theorem dX8_carryOut_35 : decode cX8_carryOut 35 = .ok (.iload_n 3, 1) := by decide +kernel
theorem dX8_carryOut_36 : decode cX8_carryOut 36 = .ok (.invokevirtual 363, 3) := by decide +kernel
theorem dX8_carryOut_39 : decode cX8_carryOut 39 = .ok (.ireturn, 1) := by decide +kernel
theorem dX8_carryOut_40 : decode cX8_carryOut 40 = .ok (.aload_n 1, 1) := by decide +kernel
theorem dX8_carryOut_41 : decode cX8_carryOut 41 = .ok (.getfield 367, 3) := by decide +kernel
theorem dX8_carryOut_44 : decode cX8_carryOut 44 = .ok (.bipush 12, 2) := by decide +kernel
theorem dX8_carryOut_46 : decode cX8_carryOut 46 = .ok (.if_icmp .gt 32, 3) := by decide +kernel
theorem dX8_carryOut_49 : decode cX8_carryOut 49 = .ok (.aload_n 0, 1) := by decide +kernel
theorem dX8_carryOut_50 : decode cX8_carryOut 50 = .ok (.getfield 10, 3) := by decide +kernel
theorem dX8_carryOut_53 : decode cX8_carryOut 53 = .ok (.invokevirtual 111, 3) := by decide +kernel
theorem dX8_carryOut_56 : decode cX8_carryOut 56 = .ok (.ifCond .eq 12, 3) := by decide +kernel
theorem dX8_carryOut_59 : decode cX8_carryOut 59 = .ok (.aload_n 0, 1) := by decide +kernel
theorem dX8_carryOut_60 : decode cX8_carryOut 60 = .ok (.iload_n 2, 1) := by decide +kernel
theorem dX8_carryOut_61 : decode cX8_carryOut 61 = .ok (.bipush 6, 2) := by decide +kernel
theorem dX8_carryOut_63 : decode cX8_carryOut 63 = .ok (.iconst 0, 1) := by decide +kernel
theorem dX8_carryOut_64 : decode cX8_carryOut 64 = .ok (.invokevirtual 363, 3) := by decide +kernel
theorem dX8_carryOut_67 : decode cX8_carryOut 67 = .ok (.ireturn, 1) := by decide +kernel
theorem dX8_carryOut_68 : decode cX8_carryOut 68 = .ok (.aload_n 0, 1) := by decide +kernel
theorem dX8_carryOut_69 : decode cX8_carryOut 69 = .ok (.getfield 10, 3) := by decide +kernel
theorem dX8_carryOut_72 : decode cX8_carryOut 72 = .ok (.aload_n 1, 1) := by decide +kernel
theorem dX8_carryOut_73 : decode cX8_carryOut 73 = .ok (.invokevirtual 119, 3) := by decide +kernel
theorem dX8_carryOut_76 : decode cX8_carryOut 76 = .ok (.iconst 1, 1) := by decide +kernel
theorem dX8_carryOut_77 : decode cX8_carryOut 77 = .ok (.ireturn, 1) := by decide +kernel
theorem dX8_carryOut_78 : decode cX8_carryOut 78 = .ok (.aload_n 1, 1) := by decide +kernel
theorem dX8_carryOut_79 : decode cX8_carryOut 79 = .ok (.getfield 369, 3) := by decide +kernel
theorem dX8_carryOut_82 : decode cX8_carryOut 82 = .ok (.iconst 0, 1) := by decide +kernel
theorem dX8_carryOut_83 : decode cX8_carryOut 83 = .ok (.iaload, 1) := by decide +kernel
theorem dX8_carryOut_84 : decode cX8_carryOut 84 = .ok (.istore 4, 2) := by decide +kernel
theorem dX8_carryOut_86 : decode cX8_carryOut 86 = .ok (.aload_n 1, 1) := by decide +kernel
theorem dX8_carryOut_87 : decode cX8_carryOut 87 = .ok (.getfield 367, 3) := by decide +kernel
theorem dX8_carryOut_90 : decode cX8_carryOut 90 = .ok (.bipush 14, 2) := by decide +kernel
theorem dX8_carryOut_92 : decode cX8_carryOut 92 = .ok (.if_icmp .ne 16, 3) := by decide +kernel
theorem dX8_carryOut_95 : decode cX8_carryOut 95 = .ok (.aload_n 0, 1) := by decide +kernel
theorem dX8_carryOut_96 : decode cX8_carryOut 96 = .ok (.getfield 10, 3) := by decide +kernel
theorem dX8_carryOut_99 : decode cX8_carryOut 99 = .ok (.getfield 151, 3) := by decide +kernel
theorem dX8_carryOut_102 : decode cX8_carryOut 102 = .ok (.iload 4, 2) := by decide +kernel
theorem dX8_carryOut_104 : decode cX8_carryOut 104 = .ok (.iconst 1, 1) := by decide +kernel
theorem dX8_carryOut_105 : decode cX8_carryOut 105 = .ok (.bastore, 1) := by decide +kernel
theorem dX8_carryOut_106 : decode cX8_carryOut 106 = .ok (.iconst 1, 1) := by decide +kernel
theorem dX8_carryOut_107 : decode cX8_carryOut 107 = .ok (.ireturn, 1) := by decide +kernel
theorem dX8_carryOut_108 : decode cX8_carryOut 108 = .ok (.aload_n 0, 1) := by decide +kernel
theorem dX8_carryOut_109 : decode cX8_carryOut 109 = .ok (.getfield 10, 3) := by decide +kernel
theorem dX8_carryOut_112 : decode cX8_carryOut 112 = .ok (.getfield 139, 3) := by decide +kernel
theorem dX8_carryOut_115 : decode cX8_carryOut 115 = .ok (.iload 4, 2) := by decide +kernel
theorem dX8_carryOut_117 : decode cX8_carryOut 117 = .ok (.iaload, 1) := by decide +kernel
theorem dX8_carryOut_118 : decode cX8_carryOut 118 = .ok (.iconst 2, 1) := by decide +kernel
theorem dX8_carryOut_119 : decode cX8_carryOut 119 = .ok (.if_icmp .eq 12, 3) := by decide +kernel
theorem dX8_carryOut_122 : decode cX8_carryOut 122 = .ok (.aload_n 0, 1) := by decide +kernel
theorem dX8_carryOut_123 : decode cX8_carryOut 123 = .ok (.iload_n 2, 1) := by decide +kernel
theorem dX8_carryOut_124 : decode cX8_carryOut 124 = .ok (.bipush 7, 2) := by decide +kernel
theorem dX8_carryOut_126 : decode cX8_carryOut 126 = .ok (.iconst 0, 1) := by decide +kernel
theorem dX8_carryOut_127 : decode cX8_carryOut 127 = .ok (.invokevirtual 363, 3) := by decide +kernel
theorem dX8_carryOut_130 : decode cX8_carryOut 130 = .ok (.ireturn, 1) := by decide +kernel
theorem dX8_carryOut_131 : decode cX8_carryOut 131 = .ok (.aload_n 0, 1) := by decide +kernel
theorem dX8_carryOut_132 : decode cX8_carryOut 132 = .ok (.getfield 10, 3) := by decide +kernel
theorem dX8_carryOut_135 : decode cX8_carryOut 135 = .ok (.getfield 148, 3) := by decide +kernel
theorem dX8_carryOut_138 : decode cX8_carryOut 138 = .ok (.iload 4, 2) := by decide +kernel
theorem dX8_carryOut_140 : decode cX8_carryOut 140 = .ok (.aload_n 1, 1) := by decide +kernel
theorem dX8_carryOut_141 : decode cX8_carryOut 141 = .ok (.getfield 369, 3) := by decide +kernel
theorem dX8_carryOut_144 : decode cX8_carryOut 144 = .ok (.iconst 1, 1) := by decide +kernel
theorem dX8_carryOut_145 : decode cX8_carryOut 145 = .ok (.iaload, 1) := by decide +kernel
theorem dX8_carryOut_146 : decode cX8_carryOut 146 = .ok (.iastore, 1) := by decide +kernel
theorem dX8_carryOut_147 : decode cX8_carryOut 147 = .ok (.iconst 1, 1) := by decide +kernel
theorem dX8_carryOut_148 : decode cX8_carryOut 148 = .ok (.ireturn, 1) := by decide +kernel
theorem dX8_refuse_0 : decode cX8_refuse 0 = .ok (.aload_n 0, 1) := by decide +kernel
theorem dX8_refuse_1 : decode cX8_refuse 1 = .ok (.getfield 70, 3) := by decide +kernel
theorem dX8_refuse_4 : decode cX8_refuse 4 = .ok (.iload_n 1, 1) := by decide +kernel
theorem dX8_refuse_5 : decode cX8_refuse 5 = .ok (.iconst 3, 1) := by decide +kernel
theorem dX8_refuse_6 : decode cX8_refuse 6 = .ok (.aload_n 0, 1) := by decide +kernel
theorem dX8_refuse_7 : decode cX8_refuse 7 = .ok (.getfield 10, 3) := by decide +kernel
theorem dX8_refuse_10 : decode cX8_refuse 10 = .ok (.getfield 98, 3) := by decide +kernel
theorem dX8_refuse_13 : decode cX8_refuse 13 = .ok (.invokevirtual 300, 3) := by decide +kernel
theorem dX8_refuse_16 : decode cX8_refuse 16 = .ok (.aload_n 0, 1) := by decide +kernel
theorem dX8_refuse_17 : decode cX8_refuse 17 = .ok (.getfield 70, 3) := by decide +kernel
theorem dX8_refuse_20 : decode cX8_refuse 20 = .ok (.iload_n 2, 1) := by decide +kernel
theorem dX8_refuse_21 : decode cX8_refuse 21 = .ok (.iload_n 3, 1) := by decide +kernel
theorem dX8_refuse_22 : decode cX8_refuse 22 = .ok (.invokevirtual 372, 3) := by decide +kernel
theorem dX8_refuse_25 : decode cX8_refuse 25 = .ok (.iconst 0, 1) := by decide +kernel
theorem dX8_refuse_26 : decode cX8_refuse 26 = .ok (.ireturn, 1) := by decide +kernel
theorem dX8_costFor_0 : decode cX8_costFor 0 = .ok (.iload_n 0, 1) := by decide +kernel
theorem dX8_costFor_1 : decode cX8_costFor 1 = .ok (.tableswitch 73 2 12 #[59, 71, 71, 63, 71, 71, 71, 73, 73, 71, 67], 59) := by decide +kernel
theorem dX8_costFor_60 : decode cX8_costFor 60 = .ok (.iconst 4, 1) := by decide +kernel
theorem dX8_costFor_61 : decode cX8_costFor 61 = .ok (.iload_n 1, 1) := by decide +kernel
theorem dX8_costFor_62 : decode cX8_costFor 62 = .ok (.imul, 1) := by decide +kernel
theorem dX8_costFor_63 : decode cX8_costFor 63 = .ok (.ireturn, 1) := by decide +kernel
theorem dX8_costFor_64 : decode cX8_costFor 64 = .ok (.iload_n 1, 1) := by decide +kernel
theorem dX8_costFor_65 : decode cX8_costFor 65 = .ok (.iload_n 1, 1) := by decide +kernel
theorem dX8_costFor_66 : decode cX8_costFor 66 = .ok (.imul, 1) := by decide +kernel
theorem dX8_costFor_67 : decode cX8_costFor 67 = .ok (.ireturn, 1) := by decide +kernel
theorem dX8_costFor_68 : decode cX8_costFor 68 = .ok (.iconst 2, 1) := by decide +kernel
theorem dX8_costFor_69 : decode cX8_costFor 69 = .ok (.iload_n 1, 1) := by decide +kernel
theorem dX8_costFor_70 : decode cX8_costFor 70 = .ok (.imul, 1) := by decide +kernel
theorem dX8_costFor_71 : decode cX8_costFor 71 = .ok (.ireturn, 1) := by decide +kernel
theorem dX8_costFor_72 : decode cX8_costFor 72 = .ok (.iload_n 1, 1) := by decide +kernel
theorem dX8_costFor_73 : decode cX8_costFor 73 = .ok (.ireturn, 1) := by decide +kernel
theorem dX8_costFor_74 : decode cX8_costFor 74 = .ok (.iconst 0, 1) := by decide +kernel
theorem dX8_costFor_75 : decode cX8_costFor 75 = .ok (.ireturn, 1) := by decide +kernel
theorem dX8_bitLength_0 : decode cX8_bitLength 0 = .ok (.bipush 32, 2) := by decide +kernel
theorem dX8_bitLength_2 : decode cX8_bitLength 2 = .ok (.iload_n 0, 1) := by decide +kernel
theorem dX8_bitLength_3 : decode cX8_bitLength 3 = .ok (.invokestatic 376, 3) := by decide +kernel
theorem dX8_bitLength_6 : decode cX8_bitLength 6 = .ok (.isub, 1) := by decide +kernel
theorem dX8_bitLength_7 : decode cX8_bitLength 7 = .ok (.ireturn, 1) := by decide +kernel
theorem dX8_lowestBits_0 : decode cX8_lowestBits 0 = .ok (.iload_n 0, 1) := by decide +kernel
theorem dX8_lowestBits_1 : decode cX8_lowestBits 1 = .ok (.bipush 32, 2) := by decide +kernel
theorem dX8_lowestBits_3 : decode cX8_lowestBits 3 = .ok (.if_icmp .lt 7, 3) := by decide +kernel
theorem dX8_lowestBits_6 : decode cX8_lowestBits 6 = .ok (.iconst (-1), 1) := by decide +kernel
theorem dX8_lowestBits_7 : decode cX8_lowestBits 7 = .ok (.goto 8, 3) := by decide +kernel
theorem dX8_lowestBits_10 : decode cX8_lowestBits 10 = .ok (.iconst 1, 1) := by decide +kernel
theorem dX8_lowestBits_11 : decode cX8_lowestBits 11 = .ok (.iload_n 0, 1) := by decide +kernel
theorem dX8_lowestBits_12 : decode cX8_lowestBits 12 = .ok (.ishl, 1) := by decide +kernel
theorem dX8_lowestBits_13 : decode cX8_lowestBits 13 = .ok (.iconst 1, 1) := by decide +kernel
theorem dX8_lowestBits_14 : decode cX8_lowestBits 14 = .ok (.isub, 1) := by decide +kernel
theorem dX8_lowestBits_15 : decode cX8_lowestBits 15 = .ok (.ireturn, 1) := by decide +kernel
theorem dJx00060_init_a7421_0 : decode cJx00060_init_a7421 0 = .ok (.aload_n 0, 1) := by decide +kernel
theorem dJx00060_init_a7421_1 : decode cJx00060_init_a7421 1 = .ok (.aload_n 1, 1) := by decide +kernel
theorem dJx00060_init_a7421_2 : decode cJx00060_init_a7421 2 = .ok (.invokespecial 7, 3) := by decide +kernel
theorem dJx00060_init_a7421_5 : decode cJx00060_init_a7421 5 = .ok (.return_, 1) := by decide +kernel
theorem dJ6_numberOfLeadingZeros_0f7a4_0 : decode cJ6_numberOfLeadingZeros_0f7a4 0 = .ok (.iload_n 0, 1) := by decide +kernel
theorem dJ6_numberOfLeadingZeros_0f7a4_1 : decode cJ6_numberOfLeadingZeros_0f7a4 1 = .ok (.ifCond .gt 14, 3) := by decide +kernel
theorem dJ6_numberOfLeadingZeros_0f7a4_4 : decode cJ6_numberOfLeadingZeros_0f7a4 4 = .ok (.iload_n 0, 1) := by decide +kernel
theorem dJ6_numberOfLeadingZeros_0f7a4_5 : decode cJ6_numberOfLeadingZeros_0f7a4 5 = .ok (.ifCond .ne 8, 3) := by decide +kernel
theorem dJ6_numberOfLeadingZeros_0f7a4_8 : decode cJ6_numberOfLeadingZeros_0f7a4 8 = .ok (.bipush 32, 2) := by decide +kernel
theorem dJ6_numberOfLeadingZeros_0f7a4_10 : decode cJ6_numberOfLeadingZeros_0f7a4 10 = .ok (.goto 4, 3) := by decide +kernel
theorem dJ6_numberOfLeadingZeros_0f7a4_13 : decode cJ6_numberOfLeadingZeros_0f7a4 13 = .ok (.iconst 0, 1) := by decide +kernel
theorem dJ6_numberOfLeadingZeros_0f7a4_14 : decode cJ6_numberOfLeadingZeros_0f7a4 14 = .ok (.ireturn, 1) := by decide +kernel
theorem dJ6_numberOfLeadingZeros_0f7a4_15 : decode cJ6_numberOfLeadingZeros_0f7a4 15 = .ok (.bipush 31, 2) := by decide +kernel
theorem dJ6_numberOfLeadingZeros_0f7a4_17 : decode cJ6_numberOfLeadingZeros_0f7a4 17 = .ok (.istore_n 1, 1) := by decide +kernel
theorem dJ6_numberOfLeadingZeros_0f7a4_18 : decode cJ6_numberOfLeadingZeros_0f7a4 18 = .ok (.iload_n 0, 1) := by decide +kernel
theorem dJ6_numberOfLeadingZeros_0f7a4_19 : decode cJ6_numberOfLeadingZeros_0f7a4 19 = .ok (.ldc_w 264, 3) := by decide +kernel
theorem dJ6_numberOfLeadingZeros_0f7a4_22 : decode cJ6_numberOfLeadingZeros_0f7a4 22 = .ok (.if_icmp .lt 11, 3) := by decide +kernel
theorem dJ6_numberOfLeadingZeros_0f7a4_25 : decode cJ6_numberOfLeadingZeros_0f7a4 25 = .ok (.iinc 1 (-16), 3) := by decide +kernel
theorem dJ6_numberOfLeadingZeros_0f7a4_28 : decode cJ6_numberOfLeadingZeros_0f7a4 28 = .ok (.iload_n 0, 1) := by decide +kernel
theorem dJ6_numberOfLeadingZeros_0f7a4_29 : decode cJ6_numberOfLeadingZeros_0f7a4 29 = .ok (.bipush 16, 2) := by decide +kernel
theorem dJ6_numberOfLeadingZeros_0f7a4_31 : decode cJ6_numberOfLeadingZeros_0f7a4 31 = .ok (.iushr, 1) := by decide +kernel
theorem dJ6_numberOfLeadingZeros_0f7a4_32 : decode cJ6_numberOfLeadingZeros_0f7a4 32 = .ok (.istore_n 0, 1) := by decide +kernel
theorem dJ6_numberOfLeadingZeros_0f7a4_33 : decode cJ6_numberOfLeadingZeros_0f7a4 33 = .ok (.iload_n 0, 1) := by decide +kernel
theorem dJ6_numberOfLeadingZeros_0f7a4_34 : decode cJ6_numberOfLeadingZeros_0f7a4 34 = .ok (.sipush 256, 3) := by decide +kernel
theorem dJ6_numberOfLeadingZeros_0f7a4_37 : decode cJ6_numberOfLeadingZeros_0f7a4 37 = .ok (.if_icmp .lt 11, 3) := by decide +kernel
theorem dJ6_numberOfLeadingZeros_0f7a4_40 : decode cJ6_numberOfLeadingZeros_0f7a4 40 = .ok (.iinc 1 (-8), 3) := by decide +kernel
theorem dJ6_numberOfLeadingZeros_0f7a4_43 : decode cJ6_numberOfLeadingZeros_0f7a4 43 = .ok (.iload_n 0, 1) := by decide +kernel
theorem dJ6_numberOfLeadingZeros_0f7a4_44 : decode cJ6_numberOfLeadingZeros_0f7a4 44 = .ok (.bipush 8, 2) := by decide +kernel
theorem dJ6_numberOfLeadingZeros_0f7a4_46 : decode cJ6_numberOfLeadingZeros_0f7a4 46 = .ok (.iushr, 1) := by decide +kernel
theorem dJ6_numberOfLeadingZeros_0f7a4_47 : decode cJ6_numberOfLeadingZeros_0f7a4 47 = .ok (.istore_n 0, 1) := by decide +kernel
theorem dJ6_numberOfLeadingZeros_0f7a4_48 : decode cJ6_numberOfLeadingZeros_0f7a4 48 = .ok (.iload_n 0, 1) := by decide +kernel
theorem dJ6_numberOfLeadingZeros_0f7a4_49 : decode cJ6_numberOfLeadingZeros_0f7a4 49 = .ok (.bipush 16, 2) := by decide +kernel
theorem dJ6_numberOfLeadingZeros_0f7a4_51 : decode cJ6_numberOfLeadingZeros_0f7a4 51 = .ok (.if_icmp .lt 10, 3) := by decide +kernel
theorem dJ6_numberOfLeadingZeros_0f7a4_54 : decode cJ6_numberOfLeadingZeros_0f7a4 54 = .ok (.iinc 1 (-4), 3) := by decide +kernel
theorem dJ6_numberOfLeadingZeros_0f7a4_57 : decode cJ6_numberOfLeadingZeros_0f7a4 57 = .ok (.iload_n 0, 1) := by decide +kernel
theorem dJ6_numberOfLeadingZeros_0f7a4_58 : decode cJ6_numberOfLeadingZeros_0f7a4 58 = .ok (.iconst 4, 1) := by decide +kernel
theorem dJ6_numberOfLeadingZeros_0f7a4_59 : decode cJ6_numberOfLeadingZeros_0f7a4 59 = .ok (.iushr, 1) := by decide +kernel
theorem dJ6_numberOfLeadingZeros_0f7a4_60 : decode cJ6_numberOfLeadingZeros_0f7a4 60 = .ok (.istore_n 0, 1) := by decide +kernel
theorem dJ6_numberOfLeadingZeros_0f7a4_61 : decode cJ6_numberOfLeadingZeros_0f7a4 61 = .ok (.iload_n 0, 1) := by decide +kernel
theorem dJ6_numberOfLeadingZeros_0f7a4_62 : decode cJ6_numberOfLeadingZeros_0f7a4 62 = .ok (.iconst 4, 1) := by decide +kernel
theorem dJ6_numberOfLeadingZeros_0f7a4_63 : decode cJ6_numberOfLeadingZeros_0f7a4 63 = .ok (.if_icmp .lt 10, 3) := by decide +kernel
theorem dJ6_numberOfLeadingZeros_0f7a4_66 : decode cJ6_numberOfLeadingZeros_0f7a4 66 = .ok (.iinc 1 (-2), 3) := by decide +kernel
theorem dJ6_numberOfLeadingZeros_0f7a4_69 : decode cJ6_numberOfLeadingZeros_0f7a4 69 = .ok (.iload_n 0, 1) := by decide +kernel
theorem dJ6_numberOfLeadingZeros_0f7a4_70 : decode cJ6_numberOfLeadingZeros_0f7a4 70 = .ok (.iconst 2, 1) := by decide +kernel
theorem dJ6_numberOfLeadingZeros_0f7a4_71 : decode cJ6_numberOfLeadingZeros_0f7a4 71 = .ok (.iushr, 1) := by decide +kernel
theorem dJ6_numberOfLeadingZeros_0f7a4_72 : decode cJ6_numberOfLeadingZeros_0f7a4 72 = .ok (.istore_n 0, 1) := by decide +kernel
theorem dJ6_numberOfLeadingZeros_0f7a4_73 : decode cJ6_numberOfLeadingZeros_0f7a4 73 = .ok (.iload_n 1, 1) := by decide +kernel
theorem dJ6_numberOfLeadingZeros_0f7a4_74 : decode cJ6_numberOfLeadingZeros_0f7a4 74 = .ok (.iload_n 0, 1) := by decide +kernel
theorem dJ6_numberOfLeadingZeros_0f7a4_75 : decode cJ6_numberOfLeadingZeros_0f7a4 75 = .ok (.iconst 1, 1) := by decide +kernel
theorem dJ6_numberOfLeadingZeros_0f7a4_76 : decode cJ6_numberOfLeadingZeros_0f7a4 76 = .ok (.iushr, 1) := by decide +kernel
theorem dJ6_numberOfLeadingZeros_0f7a4_77 : decode cJ6_numberOfLeadingZeros_0f7a4 77 = .ok (.isub, 1) := by decide +kernel
theorem dJ6_numberOfLeadingZeros_0f7a4_78 : decode cJ6_numberOfLeadingZeros_0f7a4 78 = .ok (.ireturn, 1) := by decide +kernel
theorem dJ9_max_7cf53_0 : decode cJ9_max_7cf53 0 = .ok (.iload_n 0, 1) := by decide +kernel
theorem dJ9_max_7cf53_1 : decode cJ9_max_7cf53 1 = .ok (.iload_n 1, 1) := by decide +kernel
theorem dJ9_max_7cf53_2 : decode cJ9_max_7cf53 2 = .ok (.if_icmp .lt 7, 3) := by decide +kernel
theorem dJ9_max_7cf53_5 : decode cJ9_max_7cf53 5 = .ok (.iload_n 0, 1) := by decide +kernel
theorem dJ9_max_7cf53_6 : decode cJ9_max_7cf53 6 = .ok (.goto 4, 3) := by decide +kernel
theorem dJ9_max_7cf53_9 : decode cJ9_max_7cf53 9 = .ok (.iload_n 1, 1) := by decide +kernel
theorem dJ9_max_7cf53_10 : decode cJ9_max_7cf53 10 = .ok (.ireturn, 1) := by decide +kernel
theorem dJ9_max_f86c9_0 : decode cJ9_max_f86c9 0 = .ok (.lload_n 0, 1) := by decide +kernel
theorem dJ9_max_f86c9_1 : decode cJ9_max_f86c9 1 = .ok (.lload_n 2, 1) := by decide +kernel
theorem dJ9_max_f86c9_2 : decode cJ9_max_f86c9 2 = .ok (.lcmp, 1) := by decide +kernel
theorem dJ9_max_f86c9_3 : decode cJ9_max_f86c9 3 = .ok (.ifCond .lt 7, 3) := by decide +kernel
theorem dJ9_max_f86c9_6 : decode cJ9_max_f86c9 6 = .ok (.lload_n 0, 1) := by decide +kernel
theorem dJ9_max_f86c9_7 : decode cJ9_max_f86c9 7 = .ok (.goto 4, 3) := by decide +kernel
theorem dJ9_max_f86c9_10 : decode cJ9_max_f86c9 10 = .ok (.lload_n 2, 1) := by decide +kernel
theorem dJ9_max_f86c9_11 : decode cJ9_max_f86c9 11 = .ok (.lreturn, 1) := by decide +kernel
theorem dJ9_min_7cf53_0 : decode cJ9_min_7cf53 0 = .ok (.iload_n 0, 1) := by decide +kernel
theorem dJ9_min_7cf53_1 : decode cJ9_min_7cf53 1 = .ok (.iload_n 1, 1) := by decide +kernel
theorem dJ9_min_7cf53_2 : decode cJ9_min_7cf53 2 = .ok (.if_icmp .gt 7, 3) := by decide +kernel
theorem dJ9_min_7cf53_5 : decode cJ9_min_7cf53 5 = .ok (.iload_n 0, 1) := by decide +kernel
theorem dJ9_min_7cf53_6 : decode cJ9_min_7cf53 6 = .ok (.goto 4, 3) := by decide +kernel
theorem dJ9_min_7cf53_9 : decode cJ9_min_7cf53 9 = .ok (.iload_n 1, 1) := by decide +kernel
theorem dJ9_min_7cf53_10 : decode cJ9_min_7cf53 10 = .ok (.ireturn, 1) := by decide +kernel
theorem dJ9_min_f86c9_0 : decode cJ9_min_f86c9 0 = .ok (.lload_n 0, 1) := by decide +kernel
theorem dJ9_min_f86c9_1 : decode cJ9_min_f86c9 1 = .ok (.lload_n 2, 1) := by decide +kernel
theorem dJ9_min_f86c9_2 : decode cJ9_min_f86c9 2 = .ok (.lcmp, 1) := by decide +kernel
theorem dJ9_min_f86c9_3 : decode cJ9_min_f86c9 3 = .ok (.ifCond .gt 7, 3) := by decide +kernel
theorem dJ9_min_f86c9_6 : decode cJ9_min_f86c9 6 = .ok (.lload_n 0, 1) := by decide +kernel
theorem dJ9_min_f86c9_7 : decode cJ9_min_f86c9 7 = .ok (.goto 4, 3) := by decide +kernel
theorem dJ9_min_f86c9_10 : decode cJ9_min_f86c9 10 = .ok (.lload_n 2, 1) := by decide +kernel
theorem dJ9_min_f86c9_11 : decode cJ9_min_f86c9 11 = .ok (.lreturn, 1) := by decide +kernel
theorem dJ7_fill_53178_0 : decode cJ7_fill_53178 0 = .ok (.iconst 0, 1) := by decide +kernel
theorem dJ7_fill_53178_1 : decode cJ7_fill_53178 1 = .ok (.istore_n 2, 1) := by decide +kernel
theorem dJ7_fill_53178_2 : decode cJ7_fill_53178 2 = .ok (.aload_n 0, 1) := by decide +kernel
theorem dJ7_fill_53178_3 : decode cJ7_fill_53178 3 = .ok (.arraylength, 1) := by decide +kernel
theorem dJ7_fill_53178_4 : decode cJ7_fill_53178 4 = .ok (.istore_n 3, 1) := by decide +kernel
theorem dJ7_fill_53178_5 : decode cJ7_fill_53178 5 = .ok (.iload_n 2, 1) := by decide +kernel
theorem dJ7_fill_53178_6 : decode cJ7_fill_53178 6 = .ok (.iload_n 3, 1) := by decide +kernel
theorem dJ7_fill_53178_7 : decode cJ7_fill_53178 7 = .ok (.if_icmp .ge 13, 3) := by decide +kernel
theorem dJ7_fill_53178_10 : decode cJ7_fill_53178 10 = .ok (.aload_n 0, 1) := by decide +kernel
theorem dJ7_fill_53178_11 : decode cJ7_fill_53178 11 = .ok (.iload_n 2, 1) := by decide +kernel
theorem dJ7_fill_53178_12 : decode cJ7_fill_53178 12 = .ok (.iload_n 1, 1) := by decide +kernel
theorem dJ7_fill_53178_13 : decode cJ7_fill_53178 13 = .ok (.iastore, 1) := by decide +kernel
theorem dJ7_fill_53178_14 : decode cJ7_fill_53178 14 = .ok (.iinc 2 1, 3) := by decide +kernel
theorem dJ7_fill_53178_17 : decode cJ7_fill_53178 17 = .ok (.goto (-12), 3) := by decide +kernel
theorem dJ7_fill_53178_20 : decode cJ7_fill_53178 20 = .ok (.return_, 1) := by decide +kernel
