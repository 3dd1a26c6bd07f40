theorem d_Ac_init_0 : decode y_Ac_init.2.1 0 = .ok (.aload_n 0, 1) := by decide +kernel
theorem d_Ac_init_1 : decode y_Ac_init.2.1 1 = .ok (.invokespecial 3, 3) := by decide +kernel
theorem d_Ac_init_4 : decode y_Ac_init.2.1 4 = .ok (.aload_n 0, 1) := by decide +kernel
theorem d_Ac_init_5 : decode y_Ac_init.2.1 5 = .ok (.bipush 100, 2) := by decide +kernel
theorem d_Ac_init_7 : decode y_Ac_init.2.1 7 = .ok (.anewarray 9, 3) := by decide +kernel
theorem d_Ac_init_10 : decode y_Ac_init.2.1 10 = .ok (.putfield 11, 3) := by decide +kernel
theorem d_Ac_init_13 : decode y_Ac_init.2.1 13 = .ok (.aload_n 0, 1) := by decide +kernel
theorem d_Ac_init_14 : decode y_Ac_init.2.1 14 = .ok (.bipush 100, 2) := by decide +kernel
theorem d_Ac_init_16 : decode y_Ac_init.2.1 16 = .ok (.newarray .int, 2) := by decide +kernel
theorem d_Ac_init_18 : decode y_Ac_init.2.1 18 = .ok (.putfield 17, 3) := by decide +kernel
theorem d_Ac_init_21 : decode y_Ac_init.2.1 21 = .ok (.aload_n 0, 1) := by decide +kernel
theorem d_Ac_init_22 : decode y_Ac_init.2.1 22 = .ok (.sipush 600, 3) := by decide +kernel
theorem d_Ac_init_25 : decode y_Ac_init.2.1 25 = .ok (.newarray .int, 2) := by decide +kernel
theorem d_Ac_init_27 : decode y_Ac_init.2.1 27 = .ok (.putfield 21, 3) := by decide +kernel
theorem d_Ac_init_30 : decode y_Ac_init.2.1 30 = .ok (.return_, 1) := by decide +kernel
theorem d_Ac_done_0 : decode y_Ac_done.2.1 0 = .ok (.aload_n 0, 1) := by decide +kernel
theorem d_Ac_done_1 : decode y_Ac_done.2.1 1 = .ok (.getfield 24, 3) := by decide +kernel
theorem d_Ac_done_4 : decode y_Ac_done.2.1 4 = .ok (.ireturn, 1) := by decide +kernel
theorem d_Ac_undone_0 : decode y_Ac_undone.2.1 0 = .ok (.aload_n 0, 1) := by decide +kernel
theorem d_Ac_undone_1 : decode y_Ac_undone.2.1 1 = .ok (.getfield 28, 3) := by decide +kernel
theorem d_Ac_undone_4 : decode y_Ac_undone.2.1 4 = .ok (.ireturn, 1) := by decide +kernel
theorem d_Ac_version_0 : decode y_Ac_version.2.1 0 = .ok (.aload_n 0, 1) := by decide +kernel
theorem d_Ac_version_1 : decode y_Ac_version.2.1 1 = .ok (.getfield 31, 3) := by decide +kernel
theorem d_Ac_version_4 : decode y_Ac_version.2.1 4 = .ok (.ireturn, 1) := by decide +kernel
theorem d_Ac_adding_0 : decode y_Ac_adding.2.1 0 = .ok (.aload_n 0, 1) := by decide +kernel
theorem d_Ac_adding_1 : decode y_Ac_adding.2.1 1 = .ok (.aload_n 1, 1) := by decide +kernel
theorem d_Ac_adding_2 : decode y_Ac_adding.2.1 2 = .ok (.iconst (-1), 1) := by decide +kernel
theorem d_Ac_adding_3 : decode y_Ac_adding.2.1 3 = .ok (.invokevirtual 34, 3) := by decide +kernel
theorem d_Ac_adding_6 : decode y_Ac_adding.2.1 6 = .ok (.pop, 1) := by decide +kernel
theorem d_Ac_adding_7 : decode y_Ac_adding.2.1 7 = .ok (.aload_n 1, 1) := by decide +kernel
theorem d_Ac_adding_8 : decode y_Ac_adding.2.1 8 = .ok (.invokevirtual 38, 3) := by decide +kernel
theorem d_Ac_adding_11 : decode y_Ac_adding.2.1 11 = .ok (.return_, 1) := by decide +kernel
theorem d_Ac_changing_0 : decode y_Ac_changing.2.1 0 = .ok (.aload_n 0, 1) := by decide +kernel
theorem d_Ac_changing_1 : decode y_Ac_changing.2.1 1 = .ok (.aload_n 1, 1) := by decide +kernel
theorem d_Ac_changing_2 : decode y_Ac_changing.2.1 2 = .ok (.iload_n 2, 1) := by decide +kernel
theorem d_Ac_changing_3 : decode y_Ac_changing.2.1 3 = .ok (.invokevirtual 34, 3) := by decide +kernel
theorem d_Ac_changing_6 : decode y_Ac_changing.2.1 6 = .ok (.istore_n 3, 1) := by decide +kernel
theorem d_Ac_changing_7 : decode y_Ac_changing.2.1 7 = .ok (.iconst 0, 1) := by decide +kernel
theorem d_Ac_changing_8 : decode y_Ac_changing.2.1 8 = .ok (.istore 4, 2) := by decide +kernel
theorem d_Ac_changing_10 : decode y_Ac_changing.2.1 10 = .ok (.iload 4, 2) := by decide +kernel
theorem d_Ac_changing_12 : decode y_Ac_changing.2.1 12 = .ok (.bipush 6, 2) := by decide +kernel
theorem d_Ac_changing_14 : decode y_Ac_changing.2.1 14 = .ok (.if_icmp .ge 28, 3) := by decide +kernel
theorem d_Ac_changing_17 : decode y_Ac_changing.2.1 17 = .ok (.aload_n 0, 1) := by decide +kernel
theorem d_Ac_changing_18 : decode y_Ac_changing.2.1 18 = .ok (.getfield 21, 3) := by decide +kernel
theorem d_Ac_changing_21 : decode y_Ac_changing.2.1 21 = .ok (.iload_n 3, 1) := by decide +kernel
theorem d_Ac_changing_22 : decode y_Ac_changing.2.1 22 = .ok (.bipush 6, 2) := by decide +kernel
theorem d_Ac_changing_24 : decode y_Ac_changing.2.1 24 = .ok (.imul, 1) := by decide +kernel
theorem d_Ac_changing_25 : decode y_Ac_changing.2.1 25 = .ok (.iload 4, 2) := by decide +kernel
theorem d_Ac_changing_27 : decode y_Ac_changing.2.1 27 = .ok (.iadd, 1) := by decide +kernel
theorem d_Ac_changing_28 : decode y_Ac_changing.2.1 28 = .ok (.aload_n 1, 1) := by decide +kernel
theorem d_Ac_changing_29 : decode y_Ac_changing.2.1 29 = .ok (.iload_n 2, 1) := by decide +kernel
theorem d_Ac_changing_30 : decode y_Ac_changing.2.1 30 = .ok (.iload 4, 2) := by decide +kernel
theorem d_Ac_changing_32 : decode y_Ac_changing.2.1 32 = .ok (.invokevirtual 41, 3) := by decide +kernel
theorem d_Ac_changing_35 : decode y_Ac_changing.2.1 35 = .ok (.iastore, 1) := by decide +kernel
theorem d_Ac_changing_36 : decode y_Ac_changing.2.1 36 = .ok (.iinc 4 1, 3) := by decide +kernel
theorem d_Ac_changing_39 : decode y_Ac_changing.2.1 39 = .ok (.goto (-29), 3) := by decide +kernel
theorem d_Ac_changing_42 : decode y_Ac_changing.2.1 42 = .ok (.return_, 1) := by decide +kernel
theorem d_Ac_takeBack_0 : decode y_Ac_takeBack.2.1 0 = .ok (.aload_n 0, 1) := by decide +kernel
theorem d_Ac_takeBack_1 : decode y_Ac_takeBack.2.1 1 = .ok (.getfield 24, 3) := by decide +kernel
theorem d_Ac_takeBack_4 : decode y_Ac_takeBack.2.1 4 = .ok (.ifCond .ne 5, 3) := by decide +kernel
theorem d_Ac_takeBack_7 : decode y_Ac_takeBack.2.1 7 = .ok (.iconst 0, 1) := by decide +kernel
theorem d_Ac_takeBack_8 : decode y_Ac_takeBack.2.1 8 = .ok (.ireturn, 1) := by decide +kernel
theorem d_Ac_takeBack_9 : decode y_Ac_takeBack.2.1 9 = .ok (.aload_n 0, 1) := by decide +kernel
theorem d_Ac_takeBack_10 : decode y_Ac_takeBack.2.1 10 = .ok (.dup, 1) := by decide +kernel
theorem d_Ac_takeBack_11 : decode y_Ac_takeBack.2.1 11 = .ok (.getfield 24, 3) := by decide +kernel
theorem d_Ac_takeBack_14 : decode y_Ac_takeBack.2.1 14 = .ok (.iconst 1, 1) := by decide +kernel
theorem d_Ac_takeBack_15 : decode y_Ac_takeBack.2.1 15 = .ok (.isub, 1) := by decide +kernel
theorem d_Ac_takeBack_16 : decode y_Ac_takeBack.2.1 16 = .ok (.putfield 24, 3) := by decide +kernel
theorem d_Ac_takeBack_19 : decode y_Ac_takeBack.2.1 19 = .ok (.aload_n 0, 1) := by decide +kernel
theorem d_Ac_takeBack_20 : decode y_Ac_takeBack.2.1 20 = .ok (.dup, 1) := by decide +kernel
theorem d_Ac_takeBack_21 : decode y_Ac_takeBack.2.1 21 = .ok (.getfield 28, 3) := by decide +kernel
theorem d_Ac_takeBack_24 : decode y_Ac_takeBack.2.1 24 = .ok (.iconst 1, 1) := by decide +kernel
theorem d_Ac_takeBack_25 : decode y_Ac_takeBack.2.1 25 = .ok (.iadd, 1) := by decide +kernel
theorem d_Ac_takeBack_26 : decode y_Ac_takeBack.2.1 26 = .ok (.putfield 28, 3) := by decide +kernel
theorem d_Ac_takeBack_29 : decode y_Ac_takeBack.2.1 29 = .ok (.aload_n 0, 1) := by decide +kernel
theorem d_Ac_takeBack_30 : decode y_Ac_takeBack.2.1 30 = .ok (.dup, 1) := by decide +kernel
theorem d_Ac_takeBack_31 : decode y_Ac_takeBack.2.1 31 = .ok (.getfield 31, 3) := by decide +kernel
theorem d_Ac_takeBack_34 : decode y_Ac_takeBack.2.1 34 = .ok (.iconst 1, 1) := by decide +kernel
theorem d_Ac_takeBack_35 : decode y_Ac_takeBack.2.1 35 = .ok (.iadd, 1) := by decide +kernel
theorem d_Ac_takeBack_36 : decode y_Ac_takeBack.2.1 36 = .ok (.putfield 31, 3) := by decide +kernel
theorem d_Ac_takeBack_39 : decode y_Ac_takeBack.2.1 39 = .ok (.aload_n 0, 1) := by decide +kernel
theorem d_Ac_takeBack_40 : decode y_Ac_takeBack.2.1 40 = .ok (.aload_n 0, 1) := by decide +kernel
theorem d_Ac_takeBack_41 : decode y_Ac_takeBack.2.1 41 = .ok (.aload_n 0, 1) := by decide +kernel
theorem d_Ac_takeBack_42 : decode y_Ac_takeBack.2.1 42 = .ok (.getfield 24, 3) := by decide +kernel
theorem d_Ac_takeBack_45 : decode y_Ac_takeBack.2.1 45 = .ok (.invokevirtual 45, 3) := by decide +kernel
theorem d_Ac_takeBack_48 : decode y_Ac_takeBack.2.1 48 = .ok (.iconst 0, 1) := by decide +kernel
theorem d_Ac_takeBack_49 : decode y_Ac_takeBack.2.1 49 = .ok (.invokevirtual 49, 3) := by decide +kernel
theorem d_Ac_takeBack_52 : decode y_Ac_takeBack.2.1 52 = .ok (.iconst 1, 1) := by decide +kernel
theorem d_Ac_takeBack_53 : decode y_Ac_takeBack.2.1 53 = .ok (.ireturn, 1) := by decide +kernel
theorem d_Ac_doAgain_0 : decode y_Ac_doAgain.2.1 0 = .ok (.aload_n 0, 1) := by decide +kernel
theorem d_Ac_doAgain_1 : decode y_Ac_doAgain.2.1 1 = .ok (.getfield 28, 3) := by decide +kernel
theorem d_Ac_doAgain_4 : decode y_Ac_doAgain.2.1 4 = .ok (.ifCond .ne 5, 3) := by decide +kernel
theorem d_Ac_doAgain_7 : decode y_Ac_doAgain.2.1 7 = .ok (.iconst 0, 1) := by decide +kernel
theorem d_Ac_doAgain_8 : decode y_Ac_doAgain.2.1 8 = .ok (.ireturn, 1) := by decide +kernel
theorem d_Ac_doAgain_9 : decode y_Ac_doAgain.2.1 9 = .ok (.aload_n 0, 1) := by decide +kernel
theorem d_Ac_doAgain_10 : decode y_Ac_doAgain.2.1 10 = .ok (.aload_n 0, 1) := by decide +kernel
theorem d_Ac_doAgain_11 : decode y_Ac_doAgain.2.1 11 = .ok (.aload_n 0, 1) := by decide +kernel
theorem d_Ac_doAgain_12 : decode y_Ac_doAgain.2.1 12 = .ok (.getfield 24, 3) := by decide +kernel
theorem d_Ac_doAgain_15 : decode y_Ac_doAgain.2.1 15 = .ok (.invokevirtual 45, 3) := by decide +kernel
theorem d_Ac_doAgain_18 : decode y_Ac_doAgain.2.1 18 = .ok (.iconst 1, 1) := by decide +kernel
theorem d_Ac_doAgain_19 : decode y_Ac_doAgain.2.1 19 = .ok (.invokevirtual 49, 3) := by decide +kernel
theorem d_Ac_doAgain_22 : decode y_Ac_doAgain.2.1 22 = .ok (.aload_n 0, 1) := by decide +kernel
theorem d_Ac_doAgain_23 : decode y_Ac_doAgain.2.1 23 = .ok (.dup, 1) := by decide +kernel
theorem d_Ac_doAgain_24 : decode y_Ac_doAgain.2.1 24 = .ok (.getfield 24, 3) := by decide +kernel
theorem d_Ac_doAgain_27 : decode y_Ac_doAgain.2.1 27 = .ok (.iconst 1, 1) := by decide +kernel
theorem d_Ac_doAgain_28 : decode y_Ac_doAgain.2.1 28 = .ok (.iadd, 1) := by decide +kernel
theorem d_Ac_doAgain_29 : decode y_Ac_doAgain.2.1 29 = .ok (.putfield 24, 3) := by decide +kernel
theorem d_Ac_doAgain_32 : decode y_Ac_doAgain.2.1 32 = .ok (.aload_n 0, 1) := by decide +kernel
theorem d_Ac_doAgain_33 : decode y_Ac_doAgain.2.1 33 = .ok (.dup, 1) := by decide +kernel
theorem d_Ac_doAgain_34 : decode y_Ac_doAgain.2.1 34 = .ok (.getfield 28, 3) := by decide +kernel
theorem d_Ac_doAgain_37 : decode y_Ac_doAgain.2.1 37 = .ok (.iconst 1, 1) := by decide +kernel
theorem d_Ac_doAgain_38 : decode y_Ac_doAgain.2.1 38 = .ok (.isub, 1) := by decide +kernel
theorem d_Ac_doAgain_39 : decode y_Ac_doAgain.2.1 39 = .ok (.putfield 28, 3) := by decide +kernel
theorem d_Ac_doAgain_42 : decode y_Ac_doAgain.2.1 42 = .ok (.aload_n 0, 1) := by decide +kernel
theorem d_Ac_doAgain_43 : decode y_Ac_doAgain.2.1 43 = .ok (.dup, 1) := by decide +kernel
theorem d_Ac_doAgain_44 : decode y_Ac_doAgain.2.1 44 = .ok (.getfield 31, 3) := by decide +kernel
theorem d_Ac_doAgain_47 : decode y_Ac_doAgain.2.1 47 = .ok (.iconst 1, 1) := by decide +kernel
theorem d_Ac_doAgain_48 : decode y_Ac_doAgain.2.1 48 = .ok (.iadd, 1) := by decide +kernel
theorem d_Ac_doAgain_49 : decode y_Ac_doAgain.2.1 49 = .ok (.putfield 31, 3) := by decide +kernel
theorem d_Ac_doAgain_52 : decode y_Ac_doAgain.2.1 52 = .ok (.iconst 1, 1) := by decide +kernel
theorem d_Ac_doAgain_53 : decode y_Ac_doAgain.2.1 53 = .ok (.ireturn, 1) := by decide +kernel
theorem d_Ac_newest_0 : decode y_Ac_newest.2.1 0 = .ok (.aload_n 0, 1) := by decide +kernel
theorem d_Ac_newest_1 : decode y_Ac_newest.2.1 1 = .ok (.iconst 0, 1) := by decide +kernel
theorem d_Ac_newest_2 : decode y_Ac_newest.2.1 2 = .ok (.putfield 28, 3) := by decide +kernel
theorem d_Ac_newest_5 : decode y_Ac_newest.2.1 5 = .ok (.aload_n 0, 1) := by decide +kernel
theorem d_Ac_newest_6 : decode y_Ac_newest.2.1 6 = .ok (.getfield 24, 3) := by decide +kernel
theorem d_Ac_newest_9 : decode y_Ac_newest.2.1 9 = .ok (.bipush 100, 2) := by decide +kernel
theorem d_Ac_newest_11 : decode y_Ac_newest.2.1 11 = .ok (.if_icmp .ne 26, 3) := by decide +kernel
theorem d_Ac_newest_14 : decode y_Ac_newest.2.1 14 = .ok (.aload_n 0, 1) := by decide +kernel
theorem d_Ac_newest_15 : decode y_Ac_newest.2.1 15 = .ok (.aload_n 0, 1) := by decide +kernel
theorem d_Ac_newest_16 : decode y_Ac_newest.2.1 16 = .ok (.getfield 53, 3) := by decide +kernel
theorem d_Ac_newest_19 : decode y_Ac_newest.2.1 19 = .ok (.iconst 1, 1) := by decide +kernel
theorem d_Ac_newest_20 : decode y_Ac_newest.2.1 20 = .ok (.iadd, 1) := by decide +kernel
theorem d_Ac_newest_21 : decode y_Ac_newest.2.1 21 = .ok (.bipush 100, 2) := by decide +kernel
theorem d_Ac_newest_23 : decode y_Ac_newest.2.1 23 = .ok (.irem, 1) := by decide +kernel
theorem d_Ac_newest_24 : decode y_Ac_newest.2.1 24 = .ok (.putfield 53, 3) := by decide +kernel
theorem d_Ac_newest_27 : decode y_Ac_newest.2.1 27 = .ok (.aload_n 0, 1) := by decide +kernel
theorem d_Ac_newest_28 : decode y_Ac_newest.2.1 28 = .ok (.dup, 1) := by decide +kernel
theorem d_Ac_newest_29 : decode y_Ac_newest.2.1 29 = .ok (.getfield 24, 3) := by decide +kernel
theorem d_Ac_newest_32 : decode y_Ac_newest.2.1 32 = .ok (.iconst 1, 1) := by decide +kernel
theorem d_Ac_newest_33 : decode y_Ac_newest.2.1 33 = .ok (.isub, 1) := by decide +kernel
theorem d_Ac_newest_34 : decode y_Ac_newest.2.1 34 = .ok (.putfield 24, 3) := by decide +kernel
theorem d_Ac_newest_37 : decode y_Ac_newest.2.1 37 = .ok (.aload_n 0, 1) := by decide +kernel
theorem d_Ac_newest_38 : decode y_Ac_newest.2.1 38 = .ok (.aload_n 0, 1) := by decide +kernel
theorem d_Ac_newest_39 : decode y_Ac_newest.2.1 39 = .ok (.getfield 24, 3) := by decide +kernel
theorem d_Ac_newest_42 : decode y_Ac_newest.2.1 42 = .ok (.invokevirtual 45, 3) := by decide +kernel
theorem d_Ac_newest_45 : decode y_Ac_newest.2.1 45 = .ok (.istore_n 3, 1) := by decide +kernel
theorem d_Ac_newest_46 : decode y_Ac_newest.2.1 46 = .ok (.aload_n 0, 1) := by decide +kernel
theorem d_Ac_newest_47 : decode y_Ac_newest.2.1 47 = .ok (.dup, 1) := by decide +kernel
theorem d_Ac_newest_48 : decode y_Ac_newest.2.1 48 = .ok (.getfield 24, 3) := by decide +kernel
theorem d_Ac_newest_51 : decode y_Ac_newest.2.1 51 = .ok (.iconst 1, 1) := by decide +kernel
theorem d_Ac_newest_52 : decode y_Ac_newest.2.1 52 = .ok (.iadd, 1) := by decide +kernel
theorem d_Ac_newest_53 : decode y_Ac_newest.2.1 53 = .ok (.putfield 24, 3) := by decide +kernel
theorem d_Ac_newest_56 : decode y_Ac_newest.2.1 56 = .ok (.aload_n 0, 1) := by decide +kernel
theorem d_Ac_newest_57 : decode y_Ac_newest.2.1 57 = .ok (.dup, 1) := by decide +kernel
theorem d_Ac_newest_58 : decode y_Ac_newest.2.1 58 = .ok (.getfield 31, 3) := by decide +kernel
theorem d_Ac_newest_61 : decode y_Ac_newest.2.1 61 = .ok (.iconst 1, 1) := by decide +kernel
theorem d_Ac_newest_62 : decode y_Ac_newest.2.1 62 = .ok (.iadd, 1) := by decide +kernel
theorem d_Ac_newest_63 : decode y_Ac_newest.2.1 63 = .ok (.putfield 31, 3) := by decide +kernel
theorem d_Ac_newest_66 : decode y_Ac_newest.2.1 66 = .ok (.aload_n 0, 1) := by decide +kernel
theorem d_Ac_newest_67 : decode y_Ac_newest.2.1 67 = .ok (.getfield 11, 3) := by decide +kernel
theorem d_Ac_newest_70 : decode y_Ac_newest.2.1 70 = .ok (.iload_n 3, 1) := by decide +kernel
theorem d_Ac_newest_71 : decode y_Ac_newest.2.1 71 = .ok (.aload_n 1, 1) := by decide +kernel
theorem d_Ac_newest_72 : decode y_Ac_newest.2.1 72 = .ok (.aastore, 1) := by decide +kernel
theorem d_Ac_newest_73 : decode y_Ac_newest.2.1 73 = .ok (.aload_n 0, 1) := by decide +kernel
theorem d_Ac_newest_74 : decode y_Ac_newest.2.1 74 = .ok (.getfield 17, 3) := by decide +kernel
theorem d_Ac_newest_77 : decode y_Ac_newest.2.1 77 = .ok (.iload_n 3, 1) := by decide +kernel
theorem d_Ac_newest_78 : decode y_Ac_newest.2.1 78 = .ok (.iload_n 2, 1) := by decide +kernel
theorem d_Ac_newest_79 : decode y_Ac_newest.2.1 79 = .ok (.iastore, 1) := by decide +kernel
theorem d_Ac_newest_80 : decode y_Ac_newest.2.1 80 = .ok (.iload_n 3, 1) := by decide +kernel
theorem d_Ac_newest_81 : decode y_Ac_newest.2.1 81 = .ok (.ireturn, 1) := by decide +kernel
theorem d_Ac_slotOf_0 : decode y_Ac_slotOf.2.1 0 = .ok (.aload_n 0, 1) := by decide +kernel
theorem d_Ac_slotOf_1 : decode y_Ac_slotOf.2.1 1 = .ok (.getfield 53, 3) := by decide +kernel
theorem d_Ac_slotOf_4 : decode y_Ac_slotOf.2.1 4 = .ok (.iload_n 1, 1) := by decide +kernel
theorem d_Ac_slotOf_5 : decode y_Ac_slotOf.2.1 5 = .ok (.iadd, 1) := by decide +kernel
theorem d_Ac_slotOf_6 : decode y_Ac_slotOf.2.1 6 = .ok (.bipush 100, 2) := by decide +kernel
theorem d_Ac_slotOf_8 : decode y_Ac_slotOf.2.1 8 = .ok (.irem, 1) := by decide +kernel
theorem d_Ac_slotOf_9 : decode y_Ac_slotOf.2.1 9 = .ok (.ireturn, 1) := by decide +kernel
theorem d_Ac_turnOver_0 : decode y_Ac_turnOver.2.1 0 = .ok (.aload_n 0, 1) := by decide +kernel
theorem d_Ac_turnOver_1 : decode y_Ac_turnOver.2.1 1 = .ok (.getfield 11, 3) := by decide +kernel
theorem d_Ac_turnOver_4 : decode y_Ac_turnOver.2.1 4 = .ok (.iload_n 1, 1) := by decide +kernel
theorem d_Ac_turnOver_5 : decode y_Ac_turnOver.2.1 5 = .ok (.aaload, 1) := by decide +kernel
theorem d_Ac_turnOver_6 : decode y_Ac_turnOver.2.1 6 = .ok (.astore_n 3, 1) := by decide +kernel
theorem d_Ac_turnOver_7 : decode y_Ac_turnOver.2.1 7 = .ok (.aload_n 3, 1) := by decide +kernel
theorem d_Ac_turnOver_8 : decode y_Ac_turnOver.2.1 8 = .ok (.ifnonnull 4, 3) := by decide +kernel
theorem d_Ac_turnOver_11 : decode y_Ac_turnOver.2.1 11 = .ok (.return_, 1) := by decide +kernel
theorem d_Ac_turnOver_12 : decode y_Ac_turnOver.2.1 12 = .ok (.aload_n 0, 1) := by decide +kernel
theorem d_Ac_turnOver_13 : decode y_Ac_turnOver.2.1 13 = .ok (.getfield 17, 3) := by decide +kernel
theorem d_Ac_turnOver_16 : decode y_Ac_turnOver.2.1 16 = .ok (.iload_n 1, 1) := by decide +kernel
theorem d_Ac_turnOver_17 : decode y_Ac_turnOver.2.1 17 = .ok (.iaload, 1) := by decide +kernel
theorem d_Ac_turnOver_18 : decode y_Ac_turnOver.2.1 18 = .ok (.iconst (-1), 1) := by decide +kernel
theorem d_Ac_turnOver_19 : decode y_Ac_turnOver.2.1 19 = .ok (.if_icmp .eq 12, 3) := by decide +kernel
theorem d_Ac_turnOver_22 : decode y_Ac_turnOver.2.1 22 = .ok (.aload_n 0, 1) := by decide +kernel
theorem d_Ac_turnOver_23 : decode y_Ac_turnOver.2.1 23 = .ok (.iload_n 1, 1) := by decide +kernel
theorem d_Ac_turnOver_24 : decode y_Ac_turnOver.2.1 24 = .ok (.aload_n 3, 1) := by decide +kernel
theorem d_Ac_turnOver_25 : decode y_Ac_turnOver.2.1 25 = .ok (.invokevirtual 56, 3) := by decide +kernel
theorem d_Ac_turnOver_28 : decode y_Ac_turnOver.2.1 28 = .ok (.goto 18, 3) := by decide +kernel
theorem d_Ac_turnOver_31 : decode y_Ac_turnOver.2.1 31 = .ok (.iload_n 2, 1) := by decide +kernel
theorem d_Ac_turnOver_32 : decode y_Ac_turnOver.2.1 32 = .ok (.ifCond .eq 10, 3) := by decide +kernel
theorem d_Ac_turnOver_35 : decode y_Ac_turnOver.2.1 35 = .ok (.aload_n 3, 1) := by decide +kernel
theorem d_Ac_turnOver_36 : decode y_Ac_turnOver.2.1 36 = .ok (.invokevirtual 38, 3) := by decide +kernel
theorem d_Ac_turnOver_39 : decode y_Ac_turnOver.2.1 39 = .ok (.goto 7, 3) := by decide +kernel
theorem d_Ac_turnOver_42 : decode y_Ac_turnOver.2.1 42 = .ok (.aload_n 3, 1) := by decide +kernel
theorem d_Ac_turnOver_43 : decode y_Ac_turnOver.2.1 43 = .ok (.invokevirtual 60, 3) := by decide +kernel
theorem d_Ac_turnOver_46 : decode y_Ac_turnOver.2.1 46 = .ok (.return_, 1) := by decide +kernel
theorem d_Ac_swap_0 : decode y_Ac_swap.2.1 0 = .ok (.iconst 0, 1) := by decide +kernel
theorem d_Ac_swap_1 : decode y_Ac_swap.2.1 1 = .ok (.istore_n 3, 1) := by decide +kernel
theorem d_Ac_swap_2 : decode y_Ac_swap.2.1 2 = .ok (.iload_n 3, 1) := by decide +kernel
theorem d_Ac_swap_3 : decode y_Ac_swap.2.1 3 = .ok (.bipush 6, 2) := by decide +kernel
theorem d_Ac_swap_5 : decode y_Ac_swap.2.1 5 = .ok (.if_icmp .ge 57, 3) := by decide +kernel
theorem d_Ac_swap_8 : decode y_Ac_swap.2.1 8 = .ok (.iload_n 1, 1) := by decide +kernel
theorem d_Ac_swap_9 : decode y_Ac_swap.2.1 9 = .ok (.bipush 6, 2) := by decide +kernel
theorem d_Ac_swap_11 : decode y_Ac_swap.2.1 11 = .ok (.imul, 1) := by decide +kernel
theorem d_Ac_swap_12 : decode y_Ac_swap.2.1 12 = .ok (.iload_n 3, 1) := by decide +kernel
theorem d_Ac_swap_13 : decode y_Ac_swap.2.1 13 = .ok (.iadd, 1) := by decide +kernel
theorem d_Ac_swap_14 : decode y_Ac_swap.2.1 14 = .ok (.istore 4, 2) := by decide +kernel
theorem d_Ac_swap_16 : decode y_Ac_swap.2.1 16 = .ok (.aload_n 2, 1) := by decide +kernel
theorem d_Ac_swap_17 : decode y_Ac_swap.2.1 17 = .ok (.aload_n 0, 1) := by decide +kernel
theorem d_Ac_swap_18 : decode y_Ac_swap.2.1 18 = .ok (.getfield 17, 3) := by decide +kernel
theorem d_Ac_swap_21 : decode y_Ac_swap.2.1 21 = .ok (.iload_n 1, 1) := by decide +kernel
theorem d_Ac_swap_22 : decode y_Ac_swap.2.1 22 = .ok (.iaload, 1) := by decide +kernel
theorem d_Ac_swap_23 : decode y_Ac_swap.2.1 23 = .ok (.iload_n 3, 1) := by decide +kernel
theorem d_Ac_swap_24 : decode y_Ac_swap.2.1 24 = .ok (.invokevirtual 41, 3) := by decide +kernel
theorem d_Ac_swap_27 : decode y_Ac_swap.2.1 27 = .ok (.istore 5, 2) := by decide +kernel
theorem d_Ac_swap_29 : decode y_Ac_swap.2.1 29 = .ok (.aload_n 2, 1) := by decide +kernel
theorem d_Ac_swap_30 : decode y_Ac_swap.2.1 30 = .ok (.aload_n 0, 1) := by decide +kernel
theorem d_Ac_swap_31 : decode y_Ac_swap.2.1 31 = .ok (.getfield 17, 3) := by decide +kernel
theorem d_Ac_swap_34 : decode y_Ac_swap.2.1 34 = .ok (.iload_n 1, 1) := by decide +kernel
theorem d_Ac_swap_35 : decode y_Ac_swap.2.1 35 = .ok (.iaload, 1) := by decide +kernel
theorem d_Ac_swap_36 : decode y_Ac_swap.2.1 36 = .ok (.iload_n 3, 1) := by decide +kernel
theorem d_Ac_swap_37 : decode y_Ac_swap.2.1 37 = .ok (.aload_n 0, 1) := by decide +kernel
theorem d_Ac_swap_38 : decode y_Ac_swap.2.1 38 = .ok (.getfield 21, 3) := by decide +kernel
theorem d_Ac_swap_41 : decode y_Ac_swap.2.1 41 = .ok (.iload 4, 2) := by decide +kernel
theorem d_Ac_swap_43 : decode y_Ac_swap.2.1 43 = .ok (.iaload, 1) := by decide +kernel
theorem d_Ac_swap_44 : decode y_Ac_swap.2.1 44 = .ok (.invokevirtual 63, 3) := by decide +kernel
theorem d_Ac_swap_47 : decode y_Ac_swap.2.1 47 = .ok (.aload_n 0, 1) := by decide +kernel
theorem d_Ac_swap_48 : decode y_Ac_swap.2.1 48 = .ok (.getfield 21, 3) := by decide +kernel
theorem d_Ac_swap_51 : decode y_Ac_swap.2.1 51 = .ok (.iload 4, 2) := by decide +kernel
theorem d_Ac_swap_53 : decode y_Ac_swap.2.1 53 = .ok (.iload 5, 2) := by decide +kernel
theorem d_Ac_swap_55 : decode y_Ac_swap.2.1 55 = .ok (.iastore, 1) := by decide +kernel
theorem d_Ac_swap_56 : decode y_Ac_swap.2.1 56 = .ok (.iinc 3 1, 3) := by decide +kernel
theorem d_Ac_swap_59 : decode y_Ac_swap.2.1 59 = .ok (.goto (-57), 3) := by decide +kernel
theorem d_Ac_swap_62 : decode y_Ac_swap.2.1 62 = .ok (.return_, 1) := by decide +kernel
theorem d_Cr_init_0 : decode y_Cr_init.2.1 0 = .ok (.aload_n 0, 1) := by decide +kernel
theorem d_Cr_init_1 : decode y_Cr_init.2.1 1 = .ok (.invokespecial 3, 3) := by decide +kernel
theorem d_Cr_init_4 : decode y_Cr_init.2.1 4 = .ok (.aload_n 0, 1) := by decide +kernel
theorem d_Cr_init_5 : decode y_Cr_init.2.1 5 = .ok (.sipush 168, 3) := by decide +kernel
theorem d_Cr_init_8 : decode y_Cr_init.2.1 8 = .ok (.newarray .int, 2) := by decide +kernel
theorem d_Cr_init_10 : decode y_Cr_init.2.1 10 = .ok (.putfield 9, 3) := by decide +kernel
theorem d_Cr_init_13 : decode y_Cr_init.2.1 13 = .ok (.aload_n 0, 1) := by decide +kernel
theorem d_Cr_init_14 : decode y_Cr_init.2.1 14 = .ok (.sipush 168, 3) := by decide +kernel
theorem d_Cr_init_17 : decode y_Cr_init.2.1 17 = .ok (.newarray .int, 2) := by decide +kernel
theorem d_Cr_init_19 : decode y_Cr_init.2.1 19 = .ok (.putfield 15, 3) := by decide +kernel
theorem d_Cr_init_22 : decode y_Cr_init.2.1 22 = .ok (.aload_n 0, 1) := by decide +kernel
theorem d_Cr_init_23 : decode y_Cr_init.2.1 23 = .ok (.aload_n 1, 1) := by decide +kernel
theorem d_Cr_init_24 : decode y_Cr_init.2.1 24 = .ok (.putfield 18, 3) := by decide +kernel
theorem d_Cr_init_27 : decode y_Cr_init.2.1 27 = .ok (.aload_n 0, 1) := by decide +kernel
theorem d_Cr_init_28 : decode y_Cr_init.2.1 28 = .ok (.aload_n 2, 1) := by decide +kernel
theorem d_Cr_init_29 : decode y_Cr_init.2.1 29 = .ok (.putfield 22, 3) := by decide +kernel
theorem d_Cr_init_32 : decode y_Cr_init.2.1 32 = .ok (.return_, 1) := by decide +kernel
theorem d_Cr_firstReach_0 : decode y_Cr_firstReach.2.1 0 = .ok (.aload_n 0, 1) := by decide +kernel
theorem d_Cr_firstReach_1 : decode y_Cr_firstReach.2.1 1 = .ok (.getfield 18, 3) := by decide +kernel
theorem d_Cr_firstReach_4 : decode y_Cr_firstReach.2.1 4 = .ok (.getfield 26, 3) := by decide +kernel
theorem d_Cr_firstReach_7 : decode y_Cr_firstReach.2.1 7 = .ok (.iload_n 1, 1) := by decide +kernel
theorem d_Cr_firstReach_8 : decode y_Cr_firstReach.2.1 8 = .ok (.invokevirtual 32, 3) := by decide +kernel
theorem d_Cr_firstReach_11 : decode y_Cr_firstReach.2.1 11 = .ok (.ifCond .ne 5, 3) := by decide +kernel
theorem d_Cr_firstReach_14 : decode y_Cr_firstReach.2.1 14 = .ok (.iconst (-1), 1) := by decide +kernel
theorem d_Cr_firstReach_15 : decode y_Cr_firstReach.2.1 15 = .ok (.ireturn, 1) := by decide +kernel
theorem d_Cr_firstReach_16 : decode y_Cr_firstReach.2.1 16 = .ok (.aload_n 0, 1) := by decide +kernel
theorem d_Cr_firstReach_17 : decode y_Cr_firstReach.2.1 17 = .ok (.invokevirtual 38, 3) := by decide +kernel
theorem d_Cr_firstReach_20 : decode y_Cr_firstReach.2.1 20 = .ok (.aload_n 0, 1) := by decide +kernel
theorem d_Cr_firstReach_21 : decode y_Cr_firstReach.2.1 21 = .ok (.invokevirtual 41, 3) := by decide +kernel
theorem d_Cr_firstReach_24 : decode y_Cr_firstReach.2.1 24 = .ok (.iconst 0, 1) := by decide +kernel
theorem d_Cr_firstReach_25 : decode y_Cr_firstReach.2.1 25 = .ok (.istore_n 3, 1) := by decide +kernel
theorem d_Cr_firstReach_26 : decode y_Cr_firstReach.2.1 26 = .ok (.iload_n 3, 1) := by decide +kernel
theorem d_Cr_firstReach_27 : decode y_Cr_firstReach.2.1 27 = .ok (.bipush 21, 2) := by decide +kernel
theorem d_Cr_firstReach_29 : decode y_Cr_firstReach.2.1 29 = .ok (.if_icmp .ge 36, 3) := by decide +kernel
theorem d_Cr_firstReach_32 : decode y_Cr_firstReach.2.1 32 = .ok (.aload_n 0, 1) := by decide +kernel
theorem d_Cr_firstReach_33 : decode y_Cr_firstReach.2.1 33 = .ok (.getfield 9, 3) := by decide +kernel
theorem d_Cr_firstReach_36 : decode y_Cr_firstReach.2.1 36 = .ok (.iload_n 1, 1) := by decide +kernel
theorem d_Cr_firstReach_37 : decode y_Cr_firstReach.2.1 37 = .ok (.iload_n 3, 1) := by decide +kernel
theorem d_Cr_firstReach_38 : decode y_Cr_firstReach.2.1 38 = .ok (.invokestatic 44, 3) := by decide +kernel
theorem d_Cr_firstReach_41 : decode y_Cr_firstReach.2.1 41 = .ok (.iaload, 1) := by decide +kernel
theorem d_Cr_firstReach_42 : decode y_Cr_firstReach.2.1 42 = .ok (.aload_n 0, 1) := by decide +kernel
theorem d_Cr_firstReach_43 : decode y_Cr_firstReach.2.1 43 = .ok (.getfield 15, 3) := by decide +kernel
theorem d_Cr_firstReach_46 : decode y_Cr_firstReach.2.1 46 = .ok (.iload_n 1, 1) := by decide +kernel
theorem d_Cr_firstReach_47 : decode y_Cr_firstReach.2.1 47 = .ok (.iload_n 3, 1) := by decide +kernel
theorem d_Cr_firstReach_48 : decode y_Cr_firstReach.2.1 48 = .ok (.invokestatic 44, 3) := by decide +kernel
theorem d_Cr_firstReach_51 : decode y_Cr_firstReach.2.1 51 = .ok (.iaload, 1) := by decide +kernel
theorem d_Cr_firstReach_52 : decode y_Cr_firstReach.2.1 52 = .ok (.iadd, 1) := by decide +kernel
theorem d_Cr_firstReach_53 : decode y_Cr_firstReach.2.1 53 = .ok (.iload_n 2, 1) := by decide +kernel
theorem d_Cr_firstReach_54 : decode y_Cr_firstReach.2.1 54 = .ok (.if_icmp .gt 5, 3) := by decide +kernel
theorem d_Cr_firstReach_57 : decode y_Cr_firstReach.2.1 57 = .ok (.iload_n 3, 1) := by decide +kernel
theorem d_Cr_firstReach_58 : decode y_Cr_firstReach.2.1 58 = .ok (.ireturn, 1) := by decide +kernel
theorem d_Cr_firstReach_59 : decode y_Cr_firstReach.2.1 59 = .ok (.iinc 3 1, 3) := by decide +kernel
theorem d_Cr_firstReach_62 : decode y_Cr_firstReach.2.1 62 = .ok (.goto (-36), 3) := by decide +kernel
theorem d_Cr_firstReach_65 : decode y_Cr_firstReach.2.1 65 = .ok (.iconst (-1), 1) := by decide +kernel
theorem d_Cr_firstReach_66 : decode y_Cr_firstReach.2.1 66 = .ok (.ireturn, 1) := by decide +kernel
theorem d_Cr_goThere_0 : decode y_Cr_goThere.2.1 0 = .ok (.aload_n 0, 1) := by decide +kernel
theorem d_Cr_goThere_1 : decode y_Cr_goThere.2.1 1 = .ok (.getfield 9, 3) := by decide +kernel
theorem d_Cr_goThere_4 : decode y_Cr_goThere.2.1 4 = .ok (.ldc 48, 2) := by decide +kernel
theorem d_Cr_goThere_6 : decode y_Cr_goThere.2.1 6 = .ok (.invokestatic 49, 3) := by decide +kernel
theorem d_Cr_goThere_9 : decode y_Cr_goThere.2.1 9 = .ok (.iconst 0, 1) := by decide +kernel
theorem d_Cr_goThere_10 : decode y_Cr_goThere.2.1 10 = .ok (.istore_n 1, 1) := by decide +kernel
theorem d_Cr_goThere_11 : decode y_Cr_goThere.2.1 11 = .ok (.iload_n 1, 1) := by decide +kernel
theorem d_Cr_goThere_12 : decode y_Cr_goThere.2.1 12 = .ok (.aload_n 0, 1) := by decide +kernel
theorem d_Cr_goThere_13 : decode y_Cr_goThere.2.1 13 = .ok (.getfield 18, 3) := by decide +kernel
theorem d_Cr_goThere_16 : decode y_Cr_goThere.2.1 16 = .ok (.getfield 26, 3) := by decide +kernel
theorem d_Cr_goThere_19 : decode y_Cr_goThere.2.1 19 = .ok (.invokevirtual 55, 3) := by decide +kernel
theorem d_Cr_goThere_22 : decode y_Cr_goThere.2.1 22 = .ok (.if_icmp .ge 35, 3) := by decide +kernel
theorem d_Cr_goThere_25 : decode y_Cr_goThere.2.1 25 = .ok (.aload_n 0, 1) := by decide +kernel
theorem d_Cr_goThere_26 : decode y_Cr_goThere.2.1 26 = .ok (.getfield 18, 3) := by decide +kernel
theorem d_Cr_goThere_29 : decode y_Cr_goThere.2.1 29 = .ok (.getfield 26, 3) := by decide +kernel
theorem d_Cr_goThere_32 : decode y_Cr_goThere.2.1 32 = .ok (.iload_n 1, 1) := by decide +kernel
theorem d_Cr_goThere_33 : decode y_Cr_goThere.2.1 33 = .ok (.iconst 1, 1) := by decide +kernel
theorem d_Cr_goThere_34 : decode y_Cr_goThere.2.1 34 = .ok (.invokevirtual 59, 3) := by decide +kernel
theorem d_Cr_goThere_37 : decode y_Cr_goThere.2.1 37 = .ok (.ifCond .le 14, 3) := by decide +kernel
theorem d_Cr_goThere_40 : decode y_Cr_goThere.2.1 40 = .ok (.aload_n 0, 1) := by decide +kernel
theorem d_Cr_goThere_41 : decode y_Cr_goThere.2.1 41 = .ok (.getfield 9, 3) := by decide +kernel
theorem d_Cr_goThere_44 : decode y_Cr_goThere.2.1 44 = .ok (.iload_n 1, 1) := by decide +kernel
theorem d_Cr_goThere_45 : decode y_Cr_goThere.2.1 45 = .ok (.iconst 0, 1) := by decide +kernel
theorem d_Cr_goThere_46 : decode y_Cr_goThere.2.1 46 = .ok (.invokestatic 44, 3) := by decide +kernel
theorem d_Cr_goThere_49 : decode y_Cr_goThere.2.1 49 = .ok (.iconst 0, 1) := by decide +kernel
theorem d_Cr_goThere_50 : decode y_Cr_goThere.2.1 50 = .ok (.iastore, 1) := by decide +kernel
theorem d_Cr_goThere_51 : decode y_Cr_goThere.2.1 51 = .ok (.iinc 1 1, 3) := by decide +kernel
theorem d_Cr_goThere_54 : decode y_Cr_goThere.2.1 54 = .ok (.goto (-43), 3) := by decide +kernel
theorem d_Cr_goThere_57 : decode y_Cr_goThere.2.1 57 = .ok (.iconst 0, 1) := by decide +kernel
theorem d_Cr_goThere_58 : decode y_Cr_goThere.2.1 58 = .ok (.istore_n 1, 1) := by decide +kernel
theorem d_Cr_goThere_59 : decode y_Cr_goThere.2.1 59 = .ok (.iload_n 1, 1) := by decide +kernel
theorem d_Cr_goThere_60 : decode y_Cr_goThere.2.1 60 = .ok (.bipush 21, 2) := by decide +kernel
theorem d_Cr_goThere_62 : decode y_Cr_goThere.2.1 62 = .ok (.if_icmp .ge 60, 3) := by decide +kernel
theorem d_Cr_goThere_65 : decode y_Cr_goThere.2.1 65 = .ok (.iconst 0, 1) := by decide +kernel
theorem d_Cr_goThere_66 : decode y_Cr_goThere.2.1 66 = .ok (.istore_n 2, 1) := by decide +kernel
theorem d_Cr_goThere_67 : decode y_Cr_goThere.2.1 67 = .ok (.iload_n 2, 1) := by decide +kernel
theorem d_Cr_goThere_68 : decode y_Cr_goThere.2.1 68 = .ok (.aload_n 0, 1) := by decide +kernel
theorem d_Cr_goThere_69 : decode y_Cr_goThere.2.1 69 = .ok (.getfield 18, 3) := by decide +kernel
theorem d_Cr_goThere_72 : decode y_Cr_goThere.2.1 72 = .ok (.getfield 26, 3) := by decide +kernel
theorem d_Cr_goThere_75 : decode y_Cr_goThere.2.1 75 = .ok (.invokevirtual 55, 3) := by decide +kernel
theorem d_Cr_goThere_78 : decode y_Cr_goThere.2.1 78 = .ok (.if_icmp .ge 38, 3) := by decide +kernel
theorem d_Cr_goThere_81 : decode y_Cr_goThere.2.1 81 = .ok (.aload_n 0, 1) := by decide +kernel
theorem d_Cr_goThere_82 : decode y_Cr_goThere.2.1 82 = .ok (.getfield 9, 3) := by decide +kernel
theorem d_Cr_goThere_85 : decode y_Cr_goThere.2.1 85 = .ok (.iload_n 2, 1) := by decide +kernel
theorem d_Cr_goThere_86 : decode y_Cr_goThere.2.1 86 = .ok (.iload_n 1, 1) := by decide +kernel
theorem d_Cr_goThere_87 : decode y_Cr_goThere.2.1 87 = .ok (.invokestatic 44, 3) := by decide +kernel
theorem d_Cr_goThere_90 : decode y_Cr_goThere.2.1 90 = .ok (.aload_n 0, 1) := by decide +kernel
theorem d_Cr_goThere_91 : decode y_Cr_goThere.2.1 91 = .ok (.getfield 9, 3) := by decide +kernel
theorem d_Cr_goThere_94 : decode y_Cr_goThere.2.1 94 = .ok (.iload_n 2, 1) := by decide +kernel
theorem d_Cr_goThere_95 : decode y_Cr_goThere.2.1 95 = .ok (.iload_n 1, 1) := by decide +kernel
theorem d_Cr_goThere_96 : decode y_Cr_goThere.2.1 96 = .ok (.invokestatic 44, 3) := by decide +kernel
theorem d_Cr_goThere_99 : decode y_Cr_goThere.2.1 99 = .ok (.iaload, 1) := by decide +kernel
theorem d_Cr_goThere_100 : decode y_Cr_goThere.2.1 100 = .ok (.aload_n 0, 1) := by decide +kernel
theorem d_Cr_goThere_101 : decode y_Cr_goThere.2.1 101 = .ok (.iload_n 2, 1) := by decide +kernel
theorem d_Cr_goThere_102 : decode y_Cr_goThere.2.1 102 = .ok (.iload_n 1, 1) := by decide +kernel
theorem d_Cr_goThere_103 : decode y_Cr_goThere.2.1 103 = .ok (.invokevirtual 62, 3) := by decide +kernel
theorem d_Cr_goThere_106 : decode y_Cr_goThere.2.1 106 = .ok (.invokestatic 65, 3) := by decide +kernel
theorem d_Cr_goThere_109 : decode y_Cr_goThere.2.1 109 = .ok (.iastore, 1) := by decide +kernel
theorem d_Cr_goThere_110 : decode y_Cr_goThere.2.1 110 = .ok (.iinc 2 1, 3) := by decide +kernel
theorem d_Cr_goThere_113 : decode y_Cr_goThere.2.1 113 = .ok (.goto (-46), 3) := by decide +kernel
theorem d_Cr_goThere_116 : decode y_Cr_goThere.2.1 116 = .ok (.iinc 1 1, 3) := by decide +kernel
theorem d_Cr_goThere_119 : decode y_Cr_goThere.2.1 119 = .ok (.goto (-60), 3) := by decide +kernel
theorem d_Cr_goThere_122 : decode y_Cr_goThere.2.1 122 = .ok (.return_, 1) := by decide +kernel
theorem d_Cr_leastThere_0 : decode y_Cr_leastThere.2.1 0 = .ok (.iload_n 2, 1) := by decide +kernel
theorem d_Cr_leastThere_1 : decode y_Cr_leastThere.2.1 1 = .ok (.ifCond .le 20, 3) := by decide +kernel
theorem d_Cr_leastThere_4 : decode y_Cr_leastThere.2.1 4 = .ok (.aload_n 0, 1) := by decide +kernel
theorem d_Cr_leastThere_5 : decode y_Cr_leastThere.2.1 5 = .ok (.getfield 9, 3) := by decide +kernel
theorem d_Cr_leastThere_8 : decode y_Cr_leastThere.2.1 8 = .ok (.iload_n 1, 1) := by decide +kernel
theorem d_Cr_leastThere_9 : decode y_Cr_leastThere.2.1 9 = .ok (.iload_n 2, 1) := by decide +kernel
theorem d_Cr_leastThere_10 : decode y_Cr_leastThere.2.1 10 = .ok (.iconst 1, 1) := by decide +kernel
theorem d_Cr_leastThere_11 : decode y_Cr_leastThere.2.1 11 = .ok (.isub, 1) := by decide +kernel
theorem d_Cr_leastThere_12 : decode y_Cr_leastThere.2.1 12 = .ok (.invokestatic 44, 3) := by decide +kernel
theorem d_Cr_leastThere_15 : decode y_Cr_leastThere.2.1 15 = .ok (.iaload, 1) := by decide +kernel
theorem d_Cr_leastThere_16 : decode y_Cr_leastThere.2.1 16 = .ok (.iconst 1, 1) := by decide +kernel
theorem d_Cr_leastThere_17 : decode y_Cr_leastThere.2.1 17 = .ok (.iadd, 1) := by decide +kernel
theorem d_Cr_leastThere_18 : decode y_Cr_leastThere.2.1 18 = .ok (.goto 5, 3) := by decide +kernel
theorem d_Cr_leastThere_21 : decode y_Cr_leastThere.2.1 21 = .ok (.ldc 48, 2) := by decide +kernel
theorem d_Cr_leastThere_23 : decode y_Cr_leastThere.2.1 23 = .ok (.istore_n 3, 1) := by decide +kernel
theorem d_Cr_leastThere_24 : decode y_Cr_leastThere.2.1 24 = .ok (.iconst 0, 1) := by decide +kernel
theorem d_Cr_leastThere_25 : decode y_Cr_leastThere.2.1 25 = .ok (.istore 4, 2) := by decide +kernel
theorem d_Cr_leastThere_27 : decode y_Cr_leastThere.2.1 27 = .ok (.iload 4, 2) := by decide +kernel
theorem d_Cr_leastThere_29 : decode y_Cr_leastThere.2.1 29 = .ok (.aload_n 0, 1) := by decide +kernel
theorem d_Cr_leastThere_30 : decode y_Cr_leastThere.2.1 30 = .ok (.getfield 18, 3) := by decide +kernel
theorem d_Cr_leastThere_33 : decode y_Cr_leastThere.2.1 33 = .ok (.getfield 70, 3) := by decide +kernel
theorem d_Cr_leastThere_36 : decode y_Cr_leastThere.2.1 36 = .ok (.invokevirtual 55, 3) := by decide +kernel
theorem d_Cr_leastThere_39 : decode y_Cr_leastThere.2.1 39 = .ok (.if_icmp .ge 75, 3) := by decide +kernel
theorem d_Cr_leastThere_42 : decode y_Cr_leastThere.2.1 42 = .ok (.aload_n 0, 1) := by decide +kernel
theorem d_Cr_leastThere_43 : decode y_Cr_leastThere.2.1 43 = .ok (.getfield 18, 3) := by decide +kernel
theorem d_Cr_leastThere_46 : decode y_Cr_leastThere.2.1 46 = .ok (.iload 4, 2) := by decide +kernel
theorem d_Cr_leastThere_48 : decode y_Cr_leastThere.2.1 48 = .ok (.iload_n 1, 1) := by decide +kernel
theorem d_Cr_leastThere_49 : decode y_Cr_leastThere.2.1 49 = .ok (.invokevirtual 73, 3) := by decide +kernel
theorem d_Cr_leastThere_52 : decode y_Cr_leastThere.2.1 52 = .ok (.istore 5, 2) := by decide +kernel
theorem d_Cr_leastThere_54 : decode y_Cr_leastThere.2.1 54 = .ok (.aload_n 0, 1) := by decide +kernel
theorem d_Cr_leastThere_55 : decode y_Cr_leastThere.2.1 55 = .ok (.getfield 18, 3) := by decide +kernel
theorem d_Cr_leastThere_58 : decode y_Cr_leastThere.2.1 58 = .ok (.getfield 70, 3) := by decide +kernel
theorem d_Cr_leastThere_61 : decode y_Cr_leastThere.2.1 61 = .ok (.iload 4, 2) := by decide +kernel
theorem d_Cr_leastThere_63 : decode y_Cr_leastThere.2.1 63 = .ok (.iconst 2, 1) := by decide +kernel
theorem d_Cr_leastThere_64 : decode y_Cr_leastThere.2.1 64 = .ok (.invokevirtual 59, 3) := by decide +kernel
theorem d_Cr_leastThere_67 : decode y_Cr_leastThere.2.1 67 = .ok (.istore 6, 2) := by decide +kernel
theorem d_Cr_leastThere_69 : decode y_Cr_leastThere.2.1 69 = .ok (.iload 5, 2) := by decide +kernel
theorem d_Cr_leastThere_71 : decode y_Cr_leastThere.2.1 71 = .ok (.iconst (-1), 1) := by decide +kernel
theorem d_Cr_leastThere_72 : decode y_Cr_leastThere.2.1 72 = .ok (.if_icmp .eq 36, 3) := by decide +kernel
theorem d_Cr_leastThere_75 : decode y_Cr_leastThere.2.1 75 = .ok (.iload 6, 2) := by decide +kernel
theorem d_Cr_leastThere_77 : decode y_Cr_leastThere.2.1 77 = .ok (.ifCond .le 31, 3) := by decide +kernel
theorem d_Cr_leastThere_80 : decode y_Cr_leastThere.2.1 80 = .ok (.iload 6, 2) := by decide +kernel
theorem d_Cr_leastThere_82 : decode y_Cr_leastThere.2.1 82 = .ok (.iload_n 2, 1) := by decide +kernel
theorem d_Cr_leastThere_83 : decode y_Cr_leastThere.2.1 83 = .ok (.if_icmp .gt 25, 3) := by decide +kernel
theorem d_Cr_leastThere_86 : decode y_Cr_leastThere.2.1 86 = .ok (.iload_n 3, 1) := by decide +kernel
theorem d_Cr_leastThere_87 : decode y_Cr_leastThere.2.1 87 = .ok (.aload_n 0, 1) := by decide +kernel
theorem d_Cr_leastThere_88 : decode y_Cr_leastThere.2.1 88 = .ok (.getfield 9, 3) := by decide +kernel
theorem d_Cr_leastThere_91 : decode y_Cr_leastThere.2.1 91 = .ok (.iload 5, 2) := by decide +kernel
theorem d_Cr_leastThere_93 : decode y_Cr_leastThere.2.1 93 = .ok (.iload_n 2, 1) := by decide +kernel
theorem d_Cr_leastThere_94 : decode y_Cr_leastThere.2.1 94 = .ok (.iload 6, 2) := by decide +kernel
theorem d_Cr_leastThere_96 : decode y_Cr_leastThere.2.1 96 = .ok (.isub, 1) := by decide +kernel
theorem d_Cr_leastThere_97 : decode y_Cr_leastThere.2.1 97 = .ok (.invokestatic 44, 3) := by decide +kernel
theorem d_Cr_leastThere_100 : decode y_Cr_leastThere.2.1 100 = .ok (.iaload, 1) := by decide +kernel
theorem d_Cr_leastThere_101 : decode y_Cr_leastThere.2.1 101 = .ok (.iload 6, 2) := by decide +kernel
theorem d_Cr_leastThere_103 : decode y_Cr_leastThere.2.1 103 = .ok (.iadd, 1) := by decide +kernel
theorem d_Cr_leastThere_104 : decode y_Cr_leastThere.2.1 104 = .ok (.invokestatic 65, 3) := by decide +kernel
theorem d_Cr_leastThere_107 : decode y_Cr_leastThere.2.1 107 = .ok (.istore_n 3, 1) := by decide +kernel
theorem d_Cr_leastThere_108 : decode y_Cr_leastThere.2.1 108 = .ok (.iinc 4 1, 3) := by decide +kernel
theorem d_Cr_leastThere_111 : decode y_Cr_leastThere.2.1 111 = .ok (.goto (-84), 3) := by decide +kernel
theorem d_Cr_leastThere_114 : decode y_Cr_leastThere.2.1 114 = .ok (.iload_n 3, 1) := by decide +kernel
theorem d_Cr_leastThere_115 : decode y_Cr_leastThere.2.1 115 = .ok (.aload_n 0, 1) := by decide +kernel
theorem d_Cr_leastThere_116 : decode y_Cr_leastThere.2.1 116 = .ok (.iload_n 1, 1) := by decide +kernel
theorem d_Cr_leastThere_117 : decode y_Cr_leastThere.2.1 117 = .ok (.iload_n 2, 1) := by decide +kernel
theorem d_Cr_leastThere_118 : decode y_Cr_leastThere.2.1 118 = .ok (.invokevirtual 76, 3) := by decide +kernel
theorem d_Cr_leastThere_121 : decode y_Cr_leastThere.2.1 121 = .ok (.iadd, 1) := by decide +kernel
theorem d_Cr_leastThere_122 : decode y_Cr_leastThere.2.1 122 = .ok (.ireturn, 1) := by decide +kernel
theorem d_Cr_comeBack_0 : decode y_Cr_comeBack.2.1 0 = .ok (.bipush 20, 2) := by decide +kernel
theorem d_Cr_comeBack_2 : decode y_Cr_comeBack.2.1 2 = .ok (.istore_n 1, 1) := by decide +kernel
theorem d_Cr_comeBack_3 : decode y_Cr_comeBack.2.1 3 = .ok (.iload_n 1, 1) := by decide +kernel
theorem d_Cr_comeBack_4 : decode y_Cr_comeBack.2.1 4 = .ok (.ifCond .lt 76, 3) := by decide +kernel
theorem d_Cr_comeBack_7 : decode y_Cr_comeBack.2.1 7 = .ok (.iconst 0, 1) := by decide +kernel
theorem d_Cr_comeBack_8 : decode y_Cr_comeBack.2.1 8 = .ok (.istore_n 2, 1) := by decide +kernel
theorem d_Cr_comeBack_9 : decode y_Cr_comeBack.2.1 9 = .ok (.iload_n 2, 1) := by decide +kernel
theorem d_Cr_comeBack_10 : decode y_Cr_comeBack.2.1 10 = .ok (.aload_n 0, 1) := by decide +kernel
theorem d_Cr_comeBack_11 : decode y_Cr_comeBack.2.1 11 = .ok (.getfield 18, 3) := by decide +kernel
theorem d_Cr_comeBack_14 : decode y_Cr_comeBack.2.1 14 = .ok (.getfield 26, 3) := by decide +kernel
theorem d_Cr_comeBack_17 : decode y_Cr_comeBack.2.1 17 = .ok (.invokevirtual 55, 3) := by decide +kernel
theorem d_Cr_comeBack_20 : decode y_Cr_comeBack.2.1 20 = .ok (.if_icmp .ge 54, 3) := by decide +kernel
theorem d_Cr_comeBack_23 : decode y_Cr_comeBack.2.1 23 = .ok (.aload_n 0, 1) := by decide +kernel
theorem d_Cr_comeBack_24 : decode y_Cr_comeBack.2.1 24 = .ok (.getfield 18, 3) := by decide +kernel
theorem d_Cr_comeBack_27 : decode y_Cr_comeBack.2.1 27 = .ok (.getfield 26, 3) := by decide +kernel
theorem d_Cr_comeBack_30 : decode y_Cr_comeBack.2.1 30 = .ok (.iload_n 2, 1) := by decide +kernel
theorem d_Cr_comeBack_31 : decode y_Cr_comeBack.2.1 31 = .ok (.iconst 1, 1) := by decide +kernel
theorem d_Cr_comeBack_32 : decode y_Cr_comeBack.2.1 32 = .ok (.invokevirtual 59, 3) := by decide +kernel
theorem d_Cr_comeBack_35 : decode y_Cr_comeBack.2.1 35 = .ok (.ifCond .le 7, 3) := by decide +kernel
theorem d_Cr_comeBack_38 : decode y_Cr_comeBack.2.1 38 = .ok (.iconst 1, 1) := by decide +kernel
theorem d_Cr_comeBack_39 : decode y_Cr_comeBack.2.1 39 = .ok (.goto 4, 3) := by decide +kernel
theorem d_Cr_comeBack_42 : decode y_Cr_comeBack.2.1 42 = .ok (.iconst 0, 1) := by decide +kernel
theorem d_Cr_comeBack_43 : decode y_Cr_comeBack.2.1 43 = .ok (.istore_n 3, 1) := by decide +kernel
theorem d_Cr_comeBack_44 : decode y_Cr_comeBack.2.1 44 = .ok (.aload_n 0, 1) := by decide +kernel
theorem d_Cr_comeBack_45 : decode y_Cr_comeBack.2.1 45 = .ok (.getfield 15, 3) := by decide +kernel
theorem d_Cr_comeBack_48 : decode y_Cr_comeBack.2.1 48 = .ok (.iload_n 2, 1) := by decide +kernel
theorem d_Cr_comeBack_49 : decode y_Cr_comeBack.2.1 49 = .ok (.iload_n 1, 1) := by decide +kernel
theorem d_Cr_comeBack_50 : decode y_Cr_comeBack.2.1 50 = .ok (.invokestatic 44, 3) := by decide +kernel
theorem d_Cr_comeBack_53 : decode y_Cr_comeBack.2.1 53 = .ok (.iload_n 3, 1) := by decide +kernel
theorem d_Cr_comeBack_54 : decode y_Cr_comeBack.2.1 54 = .ok (.ifCond .eq 7, 3) := by decide +kernel
theorem d_Cr_comeBack_57 : decode y_Cr_comeBack.2.1 57 = .ok (.iconst 0, 1) := by decide +kernel
theorem d_Cr_comeBack_58 : decode y_Cr_comeBack.2.1 58 = .ok (.goto 9, 3) := by decide +kernel
theorem d_Cr_comeBack_61 : decode y_Cr_comeBack.2.1 61 = .ok (.aload_n 0, 1) := by decide +kernel
theorem d_Cr_comeBack_62 : decode y_Cr_comeBack.2.1 62 = .ok (.iload_n 2, 1) := by decide +kernel
theorem d_Cr_comeBack_63 : decode y_Cr_comeBack.2.1 63 = .ok (.iload_n 1, 1) := by decide +kernel
theorem d_Cr_comeBack_64 : decode y_Cr_comeBack.2.1 64 = .ok (.invokevirtual 79, 3) := by decide +kernel
theorem d_Cr_comeBack_67 : decode y_Cr_comeBack.2.1 67 = .ok (.iastore, 1) := by decide +kernel
theorem d_Cr_comeBack_68 : decode y_Cr_comeBack.2.1 68 = .ok (.iinc 2 1, 3) := by decide +kernel
theorem d_Cr_comeBack_71 : decode y_Cr_comeBack.2.1 71 = .ok (.goto (-62), 3) := by decide +kernel
theorem d_Cr_comeBack_74 : decode y_Cr_comeBack.2.1 74 = .ok (.iinc 1 (-1), 3) := by decide +kernel
theorem d_Cr_comeBack_77 : decode y_Cr_comeBack.2.1 77 = .ok (.goto (-74), 3) := by decide +kernel
theorem d_Cr_comeBack_80 : decode y_Cr_comeBack.2.1 80 = .ok (.return_, 1) := by decide +kernel
theorem d_Cr_leastBack_0 : decode y_Cr_leastBack.2.1 0 = .ok (.ldc 48, 2) := by decide +kernel
theorem d_Cr_leastBack_2 : decode y_Cr_leastBack.2.1 2 = .ok (.istore_n 3, 1) := by decide +kernel
theorem d_Cr_leastBack_3 : decode y_Cr_leastBack.2.1 3 = .ok (.iload_n 2, 1) := by decide +kernel
theorem d_Cr_leastBack_4 : decode y_Cr_leastBack.2.1 4 = .ok (.bipush 20, 2) := by decide +kernel
theorem d_Cr_leastBack_6 : decode y_Cr_leastBack.2.1 6 = .ok (.if_icmp .ge 27, 3) := by decide +kernel
theorem d_Cr_leastBack_9 : decode y_Cr_leastBack.2.1 9 = .ok (.aload_n 0, 1) := by decide +kernel
theorem d_Cr_leastBack_10 : decode y_Cr_leastBack.2.1 10 = .ok (.getfield 15, 3) := by decide +kernel
theorem d_Cr_leastBack_13 : decode y_Cr_leastBack.2.1 13 = .ok (.iload_n 1, 1) := by decide +kernel
theorem d_Cr_leastBack_14 : decode y_Cr_leastBack.2.1 14 = .ok (.iload_n 2, 1) := by decide +kernel
theorem d_Cr_leastBack_15 : decode y_Cr_leastBack.2.1 15 = .ok (.iconst 1, 1) := by decide +kernel
theorem d_Cr_leastBack_16 : decode y_Cr_leastBack.2.1 16 = .ok (.iadd, 1) := by decide +kernel
theorem d_Cr_leastBack_17 : decode y_Cr_leastBack.2.1 17 = .ok (.invokestatic 44, 3) := by decide +kernel
theorem d_Cr_leastBack_20 : decode y_Cr_leastBack.2.1 20 = .ok (.iaload, 1) := by decide +kernel
theorem d_Cr_leastBack_21 : decode y_Cr_leastBack.2.1 21 = .ok (.iconst 1, 1) := by decide +kernel
theorem d_Cr_leastBack_22 : decode y_Cr_leastBack.2.1 22 = .ok (.iadd, 1) := by decide +kernel
theorem d_Cr_leastBack_23 : decode y_Cr_leastBack.2.1 23 = .ok (.aload_n 0, 1) := by decide +kernel
theorem d_Cr_leastBack_24 : decode y_Cr_leastBack.2.1 24 = .ok (.iload_n 1, 1) := by decide +kernel
theorem d_Cr_leastBack_25 : decode y_Cr_leastBack.2.1 25 = .ok (.iload_n 2, 1) := by decide +kernel
theorem d_Cr_leastBack_26 : decode y_Cr_leastBack.2.1 26 = .ok (.iconst 1, 1) := by decide +kernel
theorem d_Cr_leastBack_27 : decode y_Cr_leastBack.2.1 27 = .ok (.iadd, 1) := by decide +kernel
theorem d_Cr_leastBack_28 : decode y_Cr_leastBack.2.1 28 = .ok (.invokevirtual 76, 3) := by decide +kernel
theorem d_Cr_leastBack_31 : decode y_Cr_leastBack.2.1 31 = .ok (.iadd, 1) := by decide +kernel
theorem d_Cr_leastBack_32 : decode y_Cr_leastBack.2.1 32 = .ok (.istore_n 3, 1) := by decide +kernel
theorem d_Cr_leastBack_33 : decode y_Cr_leastBack.2.1 33 = .ok (.iconst 0, 1) := by decide +kernel
theorem d_Cr_leastBack_34 : decode y_Cr_leastBack.2.1 34 = .ok (.istore 4, 2) := by decide +kernel
theorem d_Cr_leastBack_36 : decode y_Cr_leastBack.2.1 36 = .ok (.iload 4, 2) := by decide +kernel
theorem d_Cr_leastBack_38 : decode y_Cr_leastBack.2.1 38 = .ok (.aload_n 0, 1) := by decide +kernel
theorem d_Cr_leastBack_39 : decode y_Cr_leastBack.2.1 39 = .ok (.getfield 18, 3) := by decide +kernel
theorem d_Cr_leastBack_42 : decode y_Cr_leastBack.2.1 42 = .ok (.getfield 70, 3) := by decide +kernel
theorem d_Cr_leastBack_45 : decode y_Cr_leastBack.2.1 45 = .ok (.invokevirtual 55, 3) := by decide +kernel
theorem d_Cr_leastBack_48 : decode y_Cr_leastBack.2.1 48 = .ok (.if_icmp .ge 93, 3) := by decide +kernel
theorem d_Cr_leastBack_51 : decode y_Cr_leastBack.2.1 51 = .ok (.aload_n 0, 1) := by decide +kernel
theorem d_Cr_leastBack_52 : decode y_Cr_leastBack.2.1 52 = .ok (.getfield 18, 3) := by decide +kernel
theorem d_Cr_leastBack_55 : decode y_Cr_leastBack.2.1 55 = .ok (.iload 4, 2) := by decide +kernel
theorem d_Cr_leastBack_57 : decode y_Cr_leastBack.2.1 57 = .ok (.iload_n 1, 1) := by decide +kernel
theorem d_Cr_leastBack_58 : decode y_Cr_leastBack.2.1 58 = .ok (.invokevirtual 73, 3) := by decide +kernel
theorem d_Cr_leastBack_61 : decode y_Cr_leastBack.2.1 61 = .ok (.istore 5, 2) := by decide +kernel
theorem d_Cr_leastBack_63 : decode y_Cr_leastBack.2.1 63 = .ok (.aload_n 0, 1) := by decide +kernel
theorem d_Cr_leastBack_64 : decode y_Cr_leastBack.2.1 64 = .ok (.getfield 18, 3) := by decide +kernel
theorem d_Cr_leastBack_67 : decode y_Cr_leastBack.2.1 67 = .ok (.getfield 70, 3) := by decide +kernel
theorem d_Cr_leastBack_70 : decode y_Cr_leastBack.2.1 70 = .ok (.iload 4, 2) := by decide +kernel
theorem d_Cr_leastBack_72 : decode y_Cr_leastBack.2.1 72 = .ok (.iconst 2, 1) := by decide +kernel
theorem d_Cr_leastBack_73 : decode y_Cr_leastBack.2.1 73 = .ok (.invokevirtual 59, 3) := by decide +kernel
theorem d_Cr_leastBack_76 : decode y_Cr_leastBack.2.1 76 = .ok (.istore 6, 2) := by decide +kernel
theorem d_Cr_leastBack_78 : decode y_Cr_leastBack.2.1 78 = .ok (.iload 5, 2) := by decide +kernel
theorem d_Cr_leastBack_80 : decode y_Cr_leastBack.2.1 80 = .ok (.iconst (-1), 1) := by decide +kernel
theorem d_Cr_leastBack_81 : decode y_Cr_leastBack.2.1 81 = .ok (.if_icmp .eq 54, 3) := by decide +kernel
theorem d_Cr_leastBack_84 : decode y_Cr_leastBack.2.1 84 = .ok (.iload 6, 2) := by decide +kernel
theorem d_Cr_leastBack_86 : decode y_Cr_leastBack.2.1 86 = .ok (.ifCond .le 49, 3) := by decide +kernel
theorem d_Cr_leastBack_89 : decode y_Cr_leastBack.2.1 89 = .ok (.iload_n 2, 1) := by decide +kernel
theorem d_Cr_leastBack_90 : decode y_Cr_leastBack.2.1 90 = .ok (.iload 6, 2) := by decide +kernel
theorem d_Cr_leastBack_92 : decode y_Cr_leastBack.2.1 92 = .ok (.iadd, 1) := by decide +kernel
theorem d_Cr_leastBack_93 : decode y_Cr_leastBack.2.1 93 = .ok (.bipush 20, 2) := by decide +kernel
theorem d_Cr_leastBack_95 : decode y_Cr_leastBack.2.1 95 = .ok (.if_icmp .gt 40, 3) := by decide +kernel
theorem d_Cr_leastBack_98 : decode y_Cr_leastBack.2.1 98 = .ok (.aload_n 0, 1) := by decide +kernel
theorem d_Cr_leastBack_99 : decode y_Cr_leastBack.2.1 99 = .ok (.getfield 15, 3) := by decide +kernel
theorem d_Cr_leastBack_102 : decode y_Cr_leastBack.2.1 102 = .ok (.iload 5, 2) := by decide +kernel
theorem d_Cr_leastBack_104 : decode y_Cr_leastBack.2.1 104 = .ok (.iload_n 2, 1) := by decide +kernel
theorem d_Cr_leastBack_105 : decode y_Cr_leastBack.2.1 105 = .ok (.iload 6, 2) := by decide +kernel
theorem d_Cr_leastBack_107 : decode y_Cr_leastBack.2.1 107 = .ok (.iadd, 1) := by decide +kernel
theorem d_Cr_leastBack_108 : decode y_Cr_leastBack.2.1 108 = .ok (.invokestatic 44, 3) := by decide +kernel
theorem d_Cr_leastBack_111 : decode y_Cr_leastBack.2.1 111 = .ok (.iaload, 1) := by decide +kernel
theorem d_Cr_leastBack_112 : decode y_Cr_leastBack.2.1 112 = .ok (.iload 6, 2) := by decide +kernel
theorem d_Cr_leastBack_114 : decode y_Cr_leastBack.2.1 114 = .ok (.iadd, 1) := by decide +kernel
theorem d_Cr_leastBack_115 : decode y_Cr_leastBack.2.1 115 = .ok (.aload_n 0, 1) := by decide +kernel
theorem d_Cr_leastBack_116 : decode y_Cr_leastBack.2.1 116 = .ok (.iload 5, 2) := by decide +kernel
theorem d_Cr_leastBack_118 : decode y_Cr_leastBack.2.1 118 = .ok (.iload_n 2, 1) := by decide +kernel
theorem d_Cr_leastBack_119 : decode y_Cr_leastBack.2.1 119 = .ok (.iload 6, 2) := by decide +kernel
theorem d_Cr_leastBack_121 : decode y_Cr_leastBack.2.1 121 = .ok (.iadd, 1) := by decide +kernel
theorem d_Cr_leastBack_122 : decode y_Cr_leastBack.2.1 122 = .ok (.invokevirtual 76, 3) := by decide +kernel
theorem d_Cr_leastBack_125 : decode y_Cr_leastBack.2.1 125 = .ok (.iadd, 1) := by decide +kernel
theorem d_Cr_leastBack_126 : decode y_Cr_leastBack.2.1 126 = .ok (.istore 7, 2) := by decide +kernel
theorem d_Cr_leastBack_128 : decode y_Cr_leastBack.2.1 128 = .ok (.iload_n 3, 1) := by decide +kernel
theorem d_Cr_leastBack_129 : decode y_Cr_leastBack.2.1 129 = .ok (.iload 7, 2) := by decide +kernel
theorem d_Cr_leastBack_131 : decode y_Cr_leastBack.2.1 131 = .ok (.invokestatic 65, 3) := by decide +kernel
theorem d_Cr_leastBack_134 : decode y_Cr_leastBack.2.1 134 = .ok (.istore_n 3, 1) := by decide +kernel
theorem d_Cr_leastBack_135 : decode y_Cr_leastBack.2.1 135 = .ok (.iinc 4 1, 3) := by decide +kernel
theorem d_Cr_leastBack_138 : decode y_Cr_leastBack.2.1 138 = .ok (.goto (-102), 3) := by decide +kernel
theorem d_Cr_leastBack_141 : decode y_Cr_leastBack.2.1 141 = .ok (.iload_n 3, 1) := by decide +kernel
theorem d_Cr_leastBack_142 : decode y_Cr_leastBack.2.1 142 = .ok (.ldc 48, 2) := by decide +kernel
theorem d_Cr_leastBack_144 : decode y_Cr_leastBack.2.1 144 = .ok (.invokestatic 65, 3) := by decide +kernel
theorem d_Cr_leastBack_147 : decode y_Cr_leastBack.2.1 147 = .ok (.ireturn, 1) := by decide +kernel
theorem d_Cr_comes_0 : decode y_Cr_comes.2.1 0 = .ok (.aload_n 0, 1) := by decide +kernel
theorem d_Cr_comes_1 : decode y_Cr_comes.2.1 1 = .ok (.getfield 22, 3) := by decide +kernel
theorem d_Cr_comes_4 : decode y_Cr_comes.2.1 4 = .ok (.iload_n 1, 1) := by decide +kernel
theorem d_Cr_comes_5 : decode y_Cr_comes.2.1 5 = .ok (.iload_n 2, 1) := by decide +kernel
theorem d_Cr_comes_6 : decode y_Cr_comes.2.1 6 = .ok (.invokevirtual 82, 3) := by decide +kernel
theorem d_Cr_comes_9 : decode y_Cr_comes.2.1 9 = .ok (.ifCond .eq 7, 3) := by decide +kernel
theorem d_Cr_comes_12 : decode y_Cr_comes.2.1 12 = .ok (.iconst 2, 1) := by decide +kernel
theorem d_Cr_comes_13 : decode y_Cr_comes.2.1 13 = .ok (.goto 4, 3) := by decide +kernel
theorem d_Cr_comes_16 : decode y_Cr_comes.2.1 16 = .ok (.iconst 0, 1) := by decide +kernel
theorem d_Cr_comes_17 : decode y_Cr_comes.2.1 17 = .ok (.ireturn, 1) := by decide +kernel
theorem d_Es_init_0 : decode y_Es_init.2.1 0 = .ok (.aload_n 0, 1) := by decide +kernel
theorem d_Es_init_1 : decode y_Es_init.2.1 1 = .ok (.invokespecial 3, 3) := by decide +kernel
theorem d_Es_init_4 : decode y_Es_init.2.1 4 = .ok (.aload_n 0, 1) := by decide +kernel
theorem d_Es_init_5 : decode y_Es_init.2.1 5 = .ok (.new 9, 3) := by decide +kernel
theorem d_Es_init_8 : decode y_Es_init.2.1 8 = .ok (.dup, 1) := by decide +kernel
theorem d_Es_init_9 : decode y_Es_init.2.1 9 = .ok (.invokespecial 11, 3) := by decide +kernel
theorem d_Es_init_12 : decode y_Es_init.2.1 12 = .ok (.putfield 12, 3) := by decide +kernel
theorem d_Es_init_15 : decode y_Es_init.2.1 15 = .ok (.aload_n 0, 1) := by decide +kernel
theorem d_Es_init_16 : decode y_Es_init.2.1 16 = .ok (.aload_n 1, 1) := by decide +kernel
theorem d_Es_init_17 : decode y_Es_init.2.1 17 = .ok (.putfield 18, 3) := by decide +kernel
theorem d_Es_init_20 : decode y_Es_init.2.1 20 = .ok (.aload_n 0, 1) := by decide +kernel
theorem d_Es_init_21 : decode y_Es_init.2.1 21 = .ok (.aload_n 2, 1) := by decide +kernel
theorem d_Es_init_22 : decode y_Es_init.2.1 22 = .ok (.putfield 22, 3) := by decide +kernel
theorem d_Es_init_25 : decode y_Es_init.2.1 25 = .ok (.return_, 1) := by decide +kernel
theorem d_Es_most_0 : decode y_Es_most.2.1 0 = .ok (.aload_n 0, 1) := by decide +kernel
theorem d_Es_most_1 : decode y_Es_most.2.1 1 = .ok (.getfield 12, 3) := by decide +kernel
theorem d_Es_most_4 : decode y_Es_most.2.1 4 = .ok (.invokevirtual 26, 3) := by decide +kernel
theorem d_Es_most_7 : decode y_Es_most.2.1 7 = .ok (.aload_n 0, 1) := by decide +kernel
theorem d_Es_most_8 : decode y_Es_most.2.1 8 = .ok (.iload_n 1, 1) := by decide +kernel
theorem d_Es_most_9 : decode y_Es_most.2.1 9 = .ok (.invokevirtual 29, 3) := by decide +kernel
theorem d_Es_most_12 : decode y_Es_most.2.1 12 = .ok (.aload_n 0, 1) := by decide +kernel
theorem d_Es_most_13 : decode y_Es_most.2.1 13 = .ok (.iload_n 1, 1) := by decide +kernel
theorem d_Es_most_14 : decode y_Es_most.2.1 14 = .ok (.iload_n 2, 1) := by decide +kernel
theorem d_Es_most_15 : decode y_Es_most.2.1 15 = .ok (.invokevirtual 33, 3) := by decide +kernel
theorem d_Es_most_18 : decode y_Es_most.2.1 18 = .ok (.aload_n 0, 1) := by decide +kernel
theorem d_Es_most_19 : decode y_Es_most.2.1 19 = .ok (.iload_n 1, 1) := by decide +kernel
theorem d_Es_most_20 : decode y_Es_most.2.1 20 = .ok (.iload_n 3, 1) := by decide +kernel
theorem d_Es_most_21 : decode y_Es_most.2.1 21 = .ok (.invokevirtual 37, 3) := by decide +kernel
theorem d_Es_most_24 : decode y_Es_most.2.1 24 = .ok (.aload_n 0, 1) := by decide +kernel
theorem d_Es_most_25 : decode y_Es_most.2.1 25 = .ok (.iload_n 1, 1) := by decide +kernel
theorem d_Es_most_26 : decode y_Es_most.2.1 26 = .ok (.invokevirtual 40, 3) := by decide +kernel
theorem d_Es_most_29 : decode y_Es_most.2.1 29 = .ok (.aload_n 0, 1) := by decide +kernel
theorem d_Es_most_30 : decode y_Es_most.2.1 30 = .ok (.getfield 12, 3) := by decide +kernel
theorem d_Es_most_33 : decode y_Es_most.2.1 33 = .ok (.invokevirtual 43, 3) := by decide +kernel
theorem d_Es_most_36 : decode y_Es_most.2.1 36 = .ok (.ireturn, 1) := by decide +kernel
theorem d_Es_firstForAll_0 : decode y_Es_firstForAll.2.1 0 = .ok (.aload_n 0, 1) := by decide +kernel
theorem d_Es_firstForAll_1 : decode y_Es_firstForAll.2.1 1 = .ok (.getfield 18, 3) := by decide +kernel
theorem d_Es_firstForAll_4 : decode y_Es_firstForAll.2.1 4 = .ok (.invokevirtual 47, 3) := by decide +kernel
theorem d_Es_firstForAll_7 : decode y_Es_firstForAll.2.1 7 = .ok (.istore_n 1, 1) := by decide +kernel
theorem d_Es_firstForAll_8 : decode y_Es_firstForAll.2.1 8 = .ok (.iconst 0, 1) := by decide +kernel
theorem d_Es_firstForAll_9 : decode y_Es_firstForAll.2.1 9 = .ok (.istore_n 2, 1) := by decide +kernel
theorem d_Es_firstForAll_10 : decode y_Es_firstForAll.2.1 10 = .ok (.bipush 21, 2) := by decide +kernel
theorem d_Es_firstForAll_12 : decode y_Es_firstForAll.2.1 12 = .ok (.istore_n 3, 1) := by decide +kernel
theorem d_Es_firstForAll_13 : decode y_Es_firstForAll.2.1 13 = .ok (.iconst 0, 1) := by decide +kernel
theorem d_Es_firstForAll_14 : decode y_Es_firstForAll.2.1 14 = .ok (.istore 4, 2) := by decide +kernel
theorem d_Es_firstForAll_16 : decode y_Es_firstForAll.2.1 16 = .ok (.iload 4, 2) := by decide +kernel
theorem d_Es_firstForAll_18 : decode y_Es_firstForAll.2.1 18 = .ok (.bipush 21, 2) := by decide +kernel
theorem d_Es_firstForAll_20 : decode y_Es_firstForAll.2.1 20 = .ok (.if_icmp .ge 56, 3) := by decide +kernel
theorem d_Es_firstForAll_23 : decode y_Es_firstForAll.2.1 23 = .ok (.iload_n 2, 1) := by decide +kernel
theorem d_Es_firstForAll_24 : decode y_Es_firstForAll.2.1 24 = .ok (.iload_n 3, 1) := by decide +kernel
theorem d_Es_firstForAll_25 : decode y_Es_firstForAll.2.1 25 = .ok (.if_icmp .ge 51, 3) := by decide +kernel
theorem d_Es_firstForAll_28 : decode y_Es_firstForAll.2.1 28 = .ok (.iload_n 2, 1) := by decide +kernel
theorem d_Es_firstForAll_29 : decode y_Es_firstForAll.2.1 29 = .ok (.iload_n 3, 1) := by decide +kernel
theorem d_Es_firstForAll_30 : decode y_Es_firstForAll.2.1 30 = .ok (.iadd, 1) := by decide +kernel
theorem d_Es_firstForAll_31 : decode y_Es_firstForAll.2.1 31 = .ok (.iconst 2, 1) := by decide +kernel
theorem d_Es_firstForAll_32 : decode y_Es_firstForAll.2.1 32 = .ok (.idiv, 1) := by decide +kernel
theorem d_Es_firstForAll_33 : decode y_Es_firstForAll.2.1 33 = .ok (.istore 5, 2) := by decide +kernel
theorem d_Es_firstForAll_35 : decode y_Es_firstForAll.2.1 35 = .ok (.aload_n 0, 1) := by decide +kernel
theorem d_Es_firstForAll_36 : decode y_Es_firstForAll.2.1 36 = .ok (.iload 5, 2) := by decide +kernel
theorem d_Es_firstForAll_38 : decode y_Es_firstForAll.2.1 38 = .ok (.aload_n 0, 1) := by decide +kernel
theorem d_Es_firstForAll_39 : decode y_Es_firstForAll.2.1 39 = .ok (.getfield 18, 3) := by decide +kernel
theorem d_Es_firstForAll_42 : decode y_Es_firstForAll.2.1 42 = .ok (.invokevirtual 52, 3) := by decide +kernel
theorem d_Es_firstForAll_45 : decode y_Es_firstForAll.2.1 45 = .ok (.aload_n 0, 1) := by decide +kernel
theorem d_Es_firstForAll_46 : decode y_Es_firstForAll.2.1 46 = .ok (.getfield 18, 3) := by decide +kernel
theorem d_Es_firstForAll_49 : decode y_Es_firstForAll.2.1 49 = .ok (.invokevirtual 55, 3) := by decide +kernel
theorem d_Es_firstForAll_52 : decode y_Es_firstForAll.2.1 52 = .ok (.invokevirtual 58, 3) := by decide +kernel
theorem d_Es_firstForAll_55 : decode y_Es_firstForAll.2.1 55 = .ok (.iload_n 1, 1) := by decide +kernel
theorem d_Es_firstForAll_56 : decode y_Es_firstForAll.2.1 56 = .ok (.if_icmp .ne 9, 3) := by decide +kernel
theorem d_Es_firstForAll_59 : decode y_Es_firstForAll.2.1 59 = .ok (.iload 5, 2) := by decide +kernel
theorem d_Es_firstForAll_61 : decode y_Es_firstForAll.2.1 61 = .ok (.istore_n 3, 1) := by decide +kernel
theorem d_Es_firstForAll_62 : decode y_Es_firstForAll.2.1 62 = .ok (.goto 8, 3) := by decide +kernel
theorem d_Es_firstForAll_65 : decode y_Es_firstForAll.2.1 65 = .ok (.iload 5, 2) := by decide +kernel
theorem d_Es_firstForAll_67 : decode y_Es_firstForAll.2.1 67 = .ok (.iconst 1, 1) := by decide +kernel
theorem d_Es_firstForAll_68 : decode y_Es_firstForAll.2.1 68 = .ok (.iadd, 1) := by decide +kernel
theorem d_Es_firstForAll_69 : decode y_Es_firstForAll.2.1 69 = .ok (.istore_n 2, 1) := by decide +kernel
theorem d_Es_firstForAll_70 : decode y_Es_firstForAll.2.1 70 = .ok (.iinc 4 1, 3) := by decide +kernel
theorem d_Es_firstForAll_73 : decode y_Es_firstForAll.2.1 73 = .ok (.goto (-57), 3) := by decide +kernel
theorem d_Es_firstForAll_76 : decode y_Es_firstForAll.2.1 76 = .ok (.iload_n 2, 1) := by decide +kernel
theorem d_Es_firstForAll_77 : decode y_Es_firstForAll.2.1 77 = .ok (.bipush 21, 2) := by decide +kernel
theorem d_Es_firstForAll_79 : decode y_Es_firstForAll.2.1 79 = .ok (.if_icmp .ne 7, 3) := by decide +kernel
theorem d_Es_firstForAll_82 : decode y_Es_firstForAll.2.1 82 = .ok (.iconst (-1), 1) := by decide +kernel
theorem d_Es_firstForAll_83 : decode y_Es_firstForAll.2.1 83 = .ok (.goto 4, 3) := by decide +kernel
theorem d_Es_firstForAll_86 : decode y_Es_firstForAll.2.1 86 = .ok (.iload_n 2, 1) := by decide +kernel
theorem d_Es_firstForAll_87 : decode y_Es_firstForAll.2.1 87 = .ok (.ireturn, 1) := by decide +kernel
theorem d_Es_fitsDrills_0 : decode y_Es_fitsDrills.2.1 0 = .ok (.iconst 0, 1) := by decide +kernel
theorem d_Es_fitsDrills_1 : decode y_Es_fitsDrills.2.1 1 = .ok (.istore_n 2, 1) := by decide +kernel
theorem d_Es_fitsDrills_2 : decode y_Es_fitsDrills.2.1 2 = .ok (.iload_n 2, 1) := by decide +kernel
theorem d_Es_fitsDrills_3 : decode y_Es_fitsDrills.2.1 3 = .ok (.aload_n 0, 1) := by decide +kernel
theorem d_Es_fitsDrills_4 : decode y_Es_fitsDrills.2.1 4 = .ok (.getfield 18, 3) := by decide +kernel
theorem d_Es_fitsDrills_7 : decode y_Es_fitsDrills.2.1 7 = .ok (.getfield 61, 3) := by decide +kernel
theorem d_Es_fitsDrills_10 : decode y_Es_fitsDrills.2.1 10 = .ok (.invokevirtual 65, 3) := by decide +kernel
theorem d_Es_fitsDrills_13 : decode y_Es_fitsDrills.2.1 13 = .ok (.if_icmp .ge 52, 3) := by decide +kernel
theorem d_Es_fitsDrills_16 : decode y_Es_fitsDrills.2.1 16 = .ok (.aload_n 0, 1) := by decide +kernel
theorem d_Es_fitsDrills_17 : decode y_Es_fitsDrills.2.1 17 = .ok (.getfield 18, 3) := by decide +kernel
theorem d_Es_fitsDrills_20 : decode y_Es_fitsDrills.2.1 20 = .ok (.getfield 61, 3) := by decide +kernel
theorem d_Es_fitsDrills_23 : decode y_Es_fitsDrills.2.1 23 = .ok (.iload_n 2, 1) := by decide +kernel
theorem d_Es_fitsDrills_24 : decode y_Es_fitsDrills.2.1 24 = .ok (.iconst 0, 1) := by decide +kernel
theorem d_Es_fitsDrills_25 : decode y_Es_fitsDrills.2.1 25 = .ok (.invokevirtual 70, 3) := by decide +kernel
theorem d_Es_fitsDrills_28 : decode y_Es_fitsDrills.2.1 28 = .ok (.istore_n 3, 1) := by decide +kernel
theorem d_Es_fitsDrills_29 : decode y_Es_fitsDrills.2.1 29 = .ok (.aload_n 0, 1) := by decide +kernel
theorem d_Es_fitsDrills_30 : decode y_Es_fitsDrills.2.1 30 = .ok (.iload_n 3, 1) := by decide +kernel
theorem d_Es_fitsDrills_31 : decode y_Es_fitsDrills.2.1 31 = .ok (.iload_n 1, 1) := by decide +kernel
theorem d_Es_fitsDrills_32 : decode y_Es_fitsDrills.2.1 32 = .ok (.aload_n 0, 1) := by decide +kernel
theorem d_Es_fitsDrills_33 : decode y_Es_fitsDrills.2.1 33 = .ok (.getfield 18, 3) := by decide +kernel
theorem d_Es_fitsDrills_36 : decode y_Es_fitsDrills.2.1 36 = .ok (.invokevirtual 55, 3) := by decide +kernel
theorem d_Es_fitsDrills_39 : decode y_Es_fitsDrills.2.1 39 = .ok (.invokevirtual 58, 3) := by decide +kernel
theorem d_Es_fitsDrills_42 : decode y_Es_fitsDrills.2.1 42 = .ok (.aload_n 0, 1) := by decide +kernel
theorem d_Es_fitsDrills_43 : decode y_Es_fitsDrills.2.1 43 = .ok (.getfield 18, 3) := by decide +kernel
theorem d_Es_fitsDrills_46 : decode y_Es_fitsDrills.2.1 46 = .ok (.getfield 61, 3) := by decide +kernel
theorem d_Es_fitsDrills_49 : decode y_Es_fitsDrills.2.1 49 = .ok (.iload_n 2, 1) := by decide +kernel
theorem d_Es_fitsDrills_50 : decode y_Es_fitsDrills.2.1 50 = .ok (.iconst 1, 1) := by decide +kernel
theorem d_Es_fitsDrills_51 : decode y_Es_fitsDrills.2.1 51 = .ok (.invokevirtual 70, 3) := by decide +kernel
theorem d_Es_fitsDrills_54 : decode y_Es_fitsDrills.2.1 54 = .ok (.if_icmp .ge 5, 3) := by decide +kernel
theorem d_Es_fitsDrills_57 : decode y_Es_fitsDrills.2.1 57 = .ok (.iconst 0, 1) := by decide +kernel
theorem d_Es_fitsDrills_58 : decode y_Es_fitsDrills.2.1 58 = .ok (.ireturn, 1) := by decide +kernel
theorem d_Es_fitsDrills_59 : decode y_Es_fitsDrills.2.1 59 = .ok (.iinc 2 1, 3) := by decide +kernel
theorem d_Es_fitsDrills_62 : decode y_Es_fitsDrills.2.1 62 = .ok (.goto (-60), 3) := by decide +kernel
theorem d_Es_fitsDrills_65 : decode y_Es_fitsDrills.2.1 65 = .ok (.iconst 1, 1) := by decide +kernel
theorem d_Es_fitsDrills_66 : decode y_Es_fitsDrills.2.1 66 = .ok (.ireturn, 1) := by decide +kernel
theorem d_Es_sideAt_0 : decode y_Es_sideAt.2.1 0 = .ok (.iconst 0, 1) := by decide +kernel
theorem d_Es_sideAt_1 : decode y_Es_sideAt.2.1 1 = .ok (.istore_n 2, 1) := by decide +kernel
theorem d_Es_sideAt_2 : decode y_Es_sideAt.2.1 2 = .ok (.iconst 0, 1) := by decide +kernel
theorem d_Es_sideAt_3 : decode y_Es_sideAt.2.1 3 = .ok (.istore_n 3, 1) := by decide +kernel
theorem d_Es_sideAt_4 : decode y_Es_sideAt.2.1 4 = .ok (.iload_n 3, 1) := by decide +kernel
theorem d_Es_sideAt_5 : decode y_Es_sideAt.2.1 5 = .ok (.aload_n 0, 1) := by decide +kernel
theorem d_Es_sideAt_6 : decode y_Es_sideAt.2.1 6 = .ok (.getfield 18, 3) := by decide +kernel
theorem d_Es_sideAt_9 : decode y_Es_sideAt.2.1 9 = .ok (.getfield 74, 3) := by decide +kernel
theorem d_Es_sideAt_12 : decode y_Es_sideAt.2.1 12 = .ok (.invokevirtual 65, 3) := by decide +kernel
theorem d_Es_sideAt_15 : decode y_Es_sideAt.2.1 15 = .ok (.if_icmp .ge 54, 3) := by decide +kernel
theorem d_Es_sideAt_18 : decode y_Es_sideAt.2.1 18 = .ok (.aload_n 0, 1) := by decide +kernel
theorem d_Es_sideAt_19 : decode y_Es_sideAt.2.1 19 = .ok (.getfield 12, 3) := by decide +kernel
theorem d_Es_sideAt_22 : decode y_Es_sideAt.2.1 22 = .ok (.iload_n 3, 1) := by decide +kernel
theorem d_Es_sideAt_23 : decode y_Es_sideAt.2.1 23 = .ok (.iload_n 1, 1) := by decide +kernel
theorem d_Es_sideAt_24 : decode y_Es_sideAt.2.1 24 = .ok (.invokestatic 77, 3) := by decide +kernel
theorem d_Es_sideAt_27 : decode y_Es_sideAt.2.1 27 = .ok (.invokevirtual 80, 3) := by decide +kernel
theorem d_Es_sideAt_30 : decode y_Es_sideAt.2.1 30 = .ok (.ifCond .eq 9, 3) := by decide +kernel
theorem d_Es_sideAt_33 : decode y_Es_sideAt.2.1 33 = .ok (.iload_n 2, 1) := by decide +kernel
theorem d_Es_sideAt_34 : decode y_Es_sideAt.2.1 34 = .ok (.iconst 1, 1) := by decide +kernel
theorem d_Es_sideAt_35 : decode y_Es_sideAt.2.1 35 = .ok (.iload_n 3, 1) := by decide +kernel
theorem d_Es_sideAt_36 : decode y_Es_sideAt.2.1 36 = .ok (.ishl, 1) := by decide +kernel
theorem d_Es_sideAt_37 : decode y_Es_sideAt.2.1 37 = .ok (.ior, 1) := by decide +kernel
theorem d_Es_sideAt_38 : decode y_Es_sideAt.2.1 38 = .ok (.istore_n 2, 1) := by decide +kernel
theorem d_Es_sideAt_39 : decode y_Es_sideAt.2.1 39 = .ok (.aload_n 0, 1) := by decide +kernel
theorem d_Es_sideAt_40 : decode y_Es_sideAt.2.1 40 = .ok (.getfield 12, 3) := by decide +kernel
theorem d_Es_sideAt_43 : decode y_Es_sideAt.2.1 43 = .ok (.iload_n 3, 1) := by decide +kernel
theorem d_Es_sideAt_44 : decode y_Es_sideAt.2.1 44 = .ok (.iload_n 1, 1) := by decide +kernel
theorem d_Es_sideAt_45 : decode y_Es_sideAt.2.1 45 = .ok (.invokestatic 84, 3) := by decide +kernel
theorem d_Es_sideAt_48 : decode y_Es_sideAt.2.1 48 = .ok (.invokevirtual 80, 3) := by decide +kernel
theorem d_Es_sideAt_51 : decode y_Es_sideAt.2.1 51 = .ok (.ifCond .eq 12, 3) := by decide +kernel
theorem d_Es_sideAt_54 : decode y_Es_sideAt.2.1 54 = .ok (.iload_n 2, 1) := by decide +kernel
theorem d_Es_sideAt_55 : decode y_Es_sideAt.2.1 55 = .ok (.iconst 1, 1) := by decide +kernel
theorem d_Es_sideAt_56 : decode y_Es_sideAt.2.1 56 = .ok (.bipush 8, 2) := by decide +kernel
theorem d_Es_sideAt_58 : decode y_Es_sideAt.2.1 58 = .ok (.iload_n 3, 1) := by decide +kernel
theorem d_Es_sideAt_59 : decode y_Es_sideAt.2.1 59 = .ok (.iadd, 1) := by decide +kernel
theorem d_Es_sideAt_60 : decode y_Es_sideAt.2.1 60 = .ok (.ishl, 1) := by decide +kernel
theorem d_Es_sideAt_61 : decode y_Es_sideAt.2.1 61 = .ok (.ior, 1) := by decide +kernel
theorem d_Es_sideAt_62 : decode y_Es_sideAt.2.1 62 = .ok (.istore_n 2, 1) := by decide +kernel
theorem d_Es_sideAt_63 : decode y_Es_sideAt.2.1 63 = .ok (.iinc 3 1, 3) := by decide +kernel
theorem d_Es_sideAt_66 : decode y_Es_sideAt.2.1 66 = .ok (.goto (-62), 3) := by decide +kernel
theorem d_Es_sideAt_69 : decode y_Es_sideAt.2.1 69 = .ok (.iload_n 2, 1) := by decide +kernel
theorem d_Es_sideAt_70 : decode y_Es_sideAt.2.1 70 = .ok (.ireturn, 1) := by decide +kernel
theorem d_Es_worthOf_0 : decode y_Es_worthOf.2.1 0 = .ok (.iconst 0, 1) := by decide +kernel
theorem d_Es_worthOf_1 : decode y_Es_worthOf.2.1 1 = .ok (.istore 4, 2) := by decide +kernel
theorem d_Es_worthOf_3 : decode y_Es_worthOf.2.1 3 = .ok (.iconst 0, 1) := by decide +kernel
theorem d_Es_worthOf_4 : decode y_Es_worthOf.2.1 4 = .ok (.istore 5, 2) := by decide +kernel
theorem d_Es_worthOf_6 : decode y_Es_worthOf.2.1 6 = .ok (.iload 5, 2) := by decide +kernel
theorem d_Es_worthOf_8 : decode y_Es_worthOf.2.1 8 = .ok (.iload_n 3, 1) := by decide +kernel
theorem d_Es_worthOf_9 : decode y_Es_worthOf.2.1 9 = .ok (.if_icmp .gt 159, 3) := by decide +kernel
theorem d_Es_worthOf_12 : decode y_Es_worthOf.2.1 12 = .ok (.iconst 0, 1) := by decide +kernel
theorem d_Es_worthOf_13 : decode y_Es_worthOf.2.1 13 = .ok (.istore 6, 2) := by decide +kernel
theorem d_Es_worthOf_15 : decode y_Es_worthOf.2.1 15 = .ok (.iload 6, 2) := by decide +kernel
theorem d_Es_worthOf_17 : decode y_Es_worthOf.2.1 17 = .ok (.aload_n 0, 1) := by decide +kernel
theorem d_Es_worthOf_18 : decode y_Es_worthOf.2.1 18 = .ok (.getfield 18, 3) := by decide +kernel
theorem d_Es_worthOf_21 : decode y_Es_worthOf.2.1 21 = .ok (.getfield 74, 3) := by decide +kernel
theorem d_Es_worthOf_24 : decode y_Es_worthOf.2.1 24 = .ok (.invokevirtual 65, 3) := by decide +kernel
theorem d_Es_worthOf_27 : decode y_Es_worthOf.2.1 27 = .ok (.if_icmp .ge 135, 3) := by decide +kernel
theorem d_Es_worthOf_30 : decode y_Es_worthOf.2.1 30 = .ok (.aload_n 1, 1) := by decide +kernel
theorem d_Es_worthOf_31 : decode y_Es_worthOf.2.1 31 = .ok (.iload_n 2, 1) := by decide +kernel
theorem d_Es_worthOf_32 : decode y_Es_worthOf.2.1 32 = .ok (.iload 5, 2) := by decide +kernel
theorem d_Es_worthOf_34 : decode y_Es_worthOf.2.1 34 = .ok (.iload 6, 2) := by decide +kernel
theorem d_Es_worthOf_36 : decode y_Es_worthOf.2.1 36 = .ok (.invokestatic 87, 3) := by decide +kernel
theorem d_Es_worthOf_39 : decode y_Es_worthOf.2.1 39 = .ok (.istore 7, 2) := by decide +kernel
theorem d_Es_worthOf_41 : decode y_Es_worthOf.2.1 41 = .ok (.aload_n 1, 1) := by decide +kernel
theorem d_Es_worthOf_42 : decode y_Es_worthOf.2.1 42 = .ok (.iload_n 2, 1) := by decide +kernel
theorem d_Es_worthOf_43 : decode y_Es_worthOf.2.1 43 = .ok (.iload 5, 2) := by decide +kernel
theorem d_Es_worthOf_45 : decode y_Es_worthOf.2.1 45 = .ok (.bipush 8, 2) := by decide +kernel
theorem d_Es_worthOf_47 : decode y_Es_worthOf.2.1 47 = .ok (.iload 6, 2) := by decide +kernel
theorem d_Es_worthOf_49 : decode y_Es_worthOf.2.1 49 = .ok (.iadd, 1) := by decide +kernel
theorem d_Es_worthOf_50 : decode y_Es_worthOf.2.1 50 = .ok (.invokestatic 87, 3) := by decide +kernel
theorem d_Es_worthOf_53 : decode y_Es_worthOf.2.1 53 = .ok (.istore 8, 2) := by decide +kernel
theorem d_Es_worthOf_55 : decode y_Es_worthOf.2.1 55 = .ok (.iload 8, 2) := by decide +kernel
theorem d_Es_worthOf_57 : decode y_Es_worthOf.2.1 57 = .ok (.ifCond .eq 25, 3) := by decide +kernel
theorem d_Es_worthOf_60 : decode y_Es_worthOf.2.1 60 = .ok (.iload 5, 2) := by decide +kernel
theorem d_Es_worthOf_62 : decode y_Es_worthOf.2.1 62 = .ok (.iload_n 3, 1) := by decide +kernel
theorem d_Es_worthOf_63 : decode y_Es_worthOf.2.1 63 = .ok (.if_icmp .ge 19, 3) := by decide +kernel
theorem d_Es_worthOf_66 : decode y_Es_worthOf.2.1 66 = .ok (.aload_n 1, 1) := by decide +kernel
theorem d_Es_worthOf_67 : decode y_Es_worthOf.2.1 67 = .ok (.iload_n 2, 1) := by decide +kernel
theorem d_Es_worthOf_68 : decode y_Es_worthOf.2.1 68 = .ok (.iload 5, 2) := by decide +kernel
theorem d_Es_worthOf_70 : decode y_Es_worthOf.2.1 70 = .ok (.iconst 1, 1) := by decide +kernel
theorem d_Es_worthOf_71 : decode y_Es_worthOf.2.1 71 = .ok (.iadd, 1) := by decide +kernel
theorem d_Es_worthOf_72 : decode y_Es_worthOf.2.1 72 = .ok (.iload 6, 2) := by decide +kernel
theorem d_Es_worthOf_74 : decode y_Es_worthOf.2.1 74 = .ok (.invokestatic 87, 3) := by decide +kernel
theorem d_Es_worthOf_77 : decode y_Es_worthOf.2.1 77 = .ok (.ifCond .ne 5, 3) := by decide +kernel
theorem d_Es_worthOf_80 : decode y_Es_worthOf.2.1 80 = .ok (.iconst (-1), 1) := by decide +kernel
theorem d_Es_worthOf_81 : decode y_Es_worthOf.2.1 81 = .ok (.ireturn, 1) := by decide +kernel
theorem d_Es_worthOf_82 : decode y_Es_worthOf.2.1 82 = .ok (.iload 7, 2) := by decide +kernel
theorem d_Es_worthOf_84 : decode y_Es_worthOf.2.1 84 = .ok (.ifCond .eq 40, 3) := by decide +kernel
theorem d_Es_worthOf_87 : decode y_Es_worthOf.2.1 87 = .ok (.iload 8, 2) := by decide +kernel
theorem d_Es_worthOf_89 : decode y_Es_worthOf.2.1 89 = .ok (.ifCond .ne 35, 3) := by decide +kernel
theorem d_Es_worthOf_92 : decode y_Es_worthOf.2.1 92 = .ok (.aload_n 0, 1) := by decide +kernel
theorem d_Es_worthOf_93 : decode y_Es_worthOf.2.1 93 = .ok (.getfield 22, 3) := by decide +kernel
theorem d_Es_worthOf_96 : decode y_Es_worthOf.2.1 96 = .ok (.iload 6, 2) := by decide +kernel
theorem d_Es_worthOf_98 : decode y_Es_worthOf.2.1 98 = .ok (.iload 5, 2) := by decide +kernel
theorem d_Es_worthOf_100 : decode y_Es_worthOf.2.1 100 = .ok (.invokevirtual 91, 3) := by decide +kernel
theorem d_Es_worthOf_103 : decode y_Es_worthOf.2.1 103 = .ok (.ifCond .ne 21, 3) := by decide +kernel
theorem d_Es_worthOf_106 : decode y_Es_worthOf.2.1 106 = .ok (.iload 4, 2) := by decide +kernel
theorem d_Es_worthOf_108 : decode y_Es_worthOf.2.1 108 = .ok (.aload_n 0, 1) := by decide +kernel
theorem d_Es_worthOf_109 : decode y_Es_worthOf.2.1 109 = .ok (.getfield 18, 3) := by decide +kernel
theorem d_Es_worthOf_112 : decode y_Es_worthOf.2.1 112 = .ok (.getfield 74, 3) := by decide +kernel
theorem d_Es_worthOf_115 : decode y_Es_worthOf.2.1 115 = .ok (.iload 6, 2) := by decide +kernel
theorem d_Es_worthOf_117 : decode y_Es_worthOf.2.1 117 = .ok (.iconst 0, 1) := by decide +kernel
theorem d_Es_worthOf_118 : decode y_Es_worthOf.2.1 118 = .ok (.invokevirtual 70, 3) := by decide +kernel
theorem d_Es_worthOf_121 : decode y_Es_worthOf.2.1 121 = .ok (.iadd, 1) := by decide +kernel
theorem d_Es_worthOf_122 : decode y_Es_worthOf.2.1 122 = .ok (.istore 4, 2) := by decide +kernel
theorem d_Es_worthOf_124 : decode y_Es_worthOf.2.1 124 = .ok (.iload 8, 2) := by decide +kernel
theorem d_Es_worthOf_126 : decode y_Es_worthOf.2.1 126 = .ok (.ifCond .eq 30, 3) := by decide +kernel
theorem d_Es_worthOf_129 : decode y_Es_worthOf.2.1 129 = .ok (.iload 5, 2) := by decide +kernel
theorem d_Es_worthOf_131 : decode y_Es_worthOf.2.1 131 = .ok (.iload_n 3, 1) := by decide +kernel
theorem d_Es_worthOf_132 : decode y_Es_worthOf.2.1 132 = .ok (.if_icmp .ge 24, 3) := by decide +kernel
theorem d_Es_worthOf_135 : decode y_Es_worthOf.2.1 135 = .ok (.iload 4, 2) := by decide +kernel
theorem d_Es_worthOf_137 : decode y_Es_worthOf.2.1 137 = .ok (.aload_n 0, 1) := by decide +kernel
theorem d_Es_worthOf_138 : decode y_Es_worthOf.2.1 138 = .ok (.getfield 18, 3) := by decide +kernel
theorem d_Es_worthOf_141 : decode y_Es_worthOf.2.1 141 = .ok (.iload 6, 2) := by decide +kernel
theorem d_Es_worthOf_143 : decode y_Es_worthOf.2.1 143 = .ok (.aload_n 0, 1) := by decide +kernel
theorem d_Es_worthOf_144 : decode y_Es_worthOf.2.1 144 = .ok (.getfield 18, 3) := by decide +kernel
theorem d_Es_worthOf_147 : decode y_Es_worthOf.2.1 147 = .ok (.invokevirtual 55, 3) := by decide +kernel
theorem d_Es_worthOf_150 : decode y_Es_worthOf.2.1 150 = .ok (.invokevirtual 97, 3) := by decide +kernel
theorem d_Es_worthOf_153 : decode y_Es_worthOf.2.1 153 = .ok (.iadd, 1) := by decide +kernel
theorem d_Es_worthOf_154 : decode y_Es_worthOf.2.1 154 = .ok (.istore 4, 2) := by decide +kernel
theorem d_Es_worthOf_156 : decode y_Es_worthOf.2.1 156 = .ok (.iinc 6 1, 3) := by decide +kernel
theorem d_Es_worthOf_159 : decode y_Es_worthOf.2.1 159 = .ok (.goto (-144), 3) := by decide +kernel
theorem d_Es_worthOf_162 : decode y_Es_worthOf.2.1 162 = .ok (.iinc 5 1, 3) := by decide +kernel
theorem d_Es_worthOf_165 : decode y_Es_worthOf.2.1 165 = .ok (.goto (-159), 3) := by decide +kernel
theorem d_Es_worthOf_168 : decode y_Es_worthOf.2.1 168 = .ok (.iload 4, 2) := by decide +kernel
theorem d_Es_worthOf_170 : decode y_Es_worthOf.2.1 170 = .ok (.aload_n 0, 1) := by decide +kernel
theorem d_Es_worthOf_171 : decode y_Es_worthOf.2.1 171 = .ok (.aload_n 1, 1) := by decide +kernel
theorem d_Es_worthOf_172 : decode y_Es_worthOf.2.1 172 = .ok (.iload_n 2, 1) := by decide +kernel
theorem d_Es_worthOf_173 : decode y_Es_worthOf.2.1 173 = .ok (.iload_n 3, 1) := by decide +kernel
theorem d_Es_worthOf_174 : decode y_Es_worthOf.2.1 174 = .ok (.invokevirtual 100, 3) := by decide +kernel
theorem d_Es_worthOf_177 : decode y_Es_worthOf.2.1 177 = .ok (.iadd, 1) := by decide +kernel
theorem d_Es_worthOf_178 : decode y_Es_worthOf.2.1 178 = .ok (.aload_n 0, 1) := by decide +kernel
theorem d_Es_worthOf_179 : decode y_Es_worthOf.2.1 179 = .ok (.aload_n 1, 1) := by decide +kernel
theorem d_Es_worthOf_180 : decode y_Es_worthOf.2.1 180 = .ok (.iload_n 2, 1) := by decide +kernel
theorem d_Es_worthOf_181 : decode y_Es_worthOf.2.1 181 = .ok (.iload_n 3, 1) := by decide +kernel
theorem d_Es_worthOf_182 : decode y_Es_worthOf.2.1 182 = .ok (.invokevirtual 104, 3) := by decide +kernel
theorem d_Es_worthOf_185 : decode y_Es_worthOf.2.1 185 = .ok (.iadd, 1) := by decide +kernel
theorem d_Es_worthOf_186 : decode y_Es_worthOf.2.1 186 = .ok (.ireturn, 1) := by decide +kernel
theorem d_Es_worthOfGroups_0 : decode y_Es_worthOfGroups.2.1 0 = .ok (.iconst 0, 1) := by decide +kernel
theorem d_Es_worthOfGroups_1 : decode y_Es_worthOfGroups.2.1 1 = .ok (.istore 4, 2) := by decide +kernel
theorem d_Es_worthOfGroups_3 : decode y_Es_worthOfGroups.2.1 3 = .ok (.iconst 0, 1) := by decide +kernel
theorem d_Es_worthOfGroups_4 : decode y_Es_worthOfGroups.2.1 4 = .ok (.istore 5, 2) := by decide +kernel
theorem d_Es_worthOfGroups_6 : decode y_Es_worthOfGroups.2.1 6 = .ok (.iload 5, 2) := by decide +kernel
theorem d_Es_worthOfGroups_8 : decode y_Es_worthOfGroups.2.1 8 = .ok (.aload_n 0, 1) := by decide +kernel
theorem d_Es_worthOfGroups_9 : decode y_Es_worthOfGroups.2.1 9 = .ok (.getfield 18, 3) := by decide +kernel
theorem d_Es_worthOfGroups_12 : decode y_Es_worthOfGroups.2.1 12 = .ok (.getfield 107, 3) := by decide +kernel
theorem d_Es_worthOfGroups_15 : decode y_Es_worthOfGroups.2.1 15 = .ok (.invokevirtual 65, 3) := by decide +kernel
theorem d_Es_worthOfGroups_18 : decode y_Es_worthOfGroups.2.1 18 = .ok (.if_icmp .ge 71, 3) := by decide +kernel
theorem d_Es_worthOfGroups_21 : decode y_Es_worthOfGroups.2.1 21 = .ok (.aload_n 0, 1) := by decide +kernel
theorem d_Es_worthOfGroups_22 : decode y_Es_worthOfGroups.2.1 22 = .ok (.getfield 18, 3) := by decide +kernel
theorem d_Es_worthOfGroups_25 : decode y_Es_worthOfGroups.2.1 25 = .ok (.getfield 107, 3) := by decide +kernel
theorem d_Es_worthOfGroups_28 : decode y_Es_worthOfGroups.2.1 28 = .ok (.iload 5, 2) := by decide +kernel
theorem d_Es_worthOfGroups_30 : decode y_Es_worthOfGroups.2.1 30 = .ok (.iconst 2, 1) := by decide +kernel
theorem d_Es_worthOfGroups_31 : decode y_Es_worthOfGroups.2.1 31 = .ok (.invokevirtual 70, 3) := by decide +kernel
theorem d_Es_worthOfGroups_34 : decode y_Es_worthOfGroups.2.1 34 = .ok (.istore 6, 2) := by decide +kernel
theorem d_Es_worthOfGroups_36 : decode y_Es_worthOfGroups.2.1 36 = .ok (.iload 6, 2) := by decide +kernel
theorem d_Es_worthOfGroups_38 : decode y_Es_worthOfGroups.2.1 38 = .ok (.iload_n 3, 1) := by decide +kernel
theorem d_Es_worthOfGroups_39 : decode y_Es_worthOfGroups.2.1 39 = .ok (.if_icmp .gt 44, 3) := by decide +kernel
theorem d_Es_worthOfGroups_42 : decode y_Es_worthOfGroups.2.1 42 = .ok (.aload_n 1, 1) := by decide +kernel
theorem d_Es_worthOfGroups_43 : decode y_Es_worthOfGroups.2.1 43 = .ok (.iload_n 2, 1) := by decide +kernel
theorem d_Es_worthOfGroups_44 : decode y_Es_worthOfGroups.2.1 44 = .ok (.iload 6, 2) := by decide +kernel
theorem d_Es_worthOfGroups_46 : decode y_Es_worthOfGroups.2.1 46 = .ok (.aload_n 0, 1) := by decide +kernel
theorem d_Es_worthOfGroups_47 : decode y_Es_worthOfGroups.2.1 47 = .ok (.getfield 18, 3) := by decide +kernel
theorem d_Es_worthOfGroups_50 : decode y_Es_worthOfGroups.2.1 50 = .ok (.getfield 107, 3) := by decide +kernel
theorem d_Es_worthOfGroups_53 : decode y_Es_worthOfGroups.2.1 53 = .ok (.iload 5, 2) := by decide +kernel
theorem d_Es_worthOfGroups_55 : decode y_Es_worthOfGroups.2.1 55 = .ok (.iconst 0, 1) := by decide +kernel
theorem d_Es_worthOfGroups_56 : decode y_Es_worthOfGroups.2.1 56 = .ok (.invokevirtual 70, 3) := by decide +kernel
theorem d_Es_worthOfGroups_59 : decode y_Es_worthOfGroups.2.1 59 = .ok (.invokestatic 87, 3) := by decide +kernel
theorem d_Es_worthOfGroups_62 : decode y_Es_worthOfGroups.2.1 62 = .ok (.ifCond .ne 21, 3) := by decide +kernel
theorem d_Es_worthOfGroups_65 : decode y_Es_worthOfGroups.2.1 65 = .ok (.iload 4, 2) := by decide +kernel
theorem d_Es_worthOfGroups_67 : decode y_Es_worthOfGroups.2.1 67 = .ok (.aload_n 0, 1) := by decide +kernel
theorem d_Es_worthOfGroups_68 : decode y_Es_worthOfGroups.2.1 68 = .ok (.getfield 18, 3) := by decide +kernel
theorem d_Es_worthOfGroups_71 : decode y_Es_worthOfGroups.2.1 71 = .ok (.getfield 107, 3) := by decide +kernel
theorem d_Es_worthOfGroups_74 : decode y_Es_worthOfGroups.2.1 74 = .ok (.iload 5, 2) := by decide +kernel
theorem d_Es_worthOfGroups_76 : decode y_Es_worthOfGroups.2.1 76 = .ok (.iconst 1, 1) := by decide +kernel
theorem d_Es_worthOfGroups_77 : decode y_Es_worthOfGroups.2.1 77 = .ok (.invokevirtual 70, 3) := by decide +kernel
theorem d_Es_worthOfGroups_80 : decode y_Es_worthOfGroups.2.1 80 = .ok (.iadd, 1) := by decide +kernel
theorem d_Es_worthOfGroups_81 : decode y_Es_worthOfGroups.2.1 81 = .ok (.istore 4, 2) := by decide +kernel
theorem d_Es_worthOfGroups_83 : decode y_Es_worthOfGroups.2.1 83 = .ok (.iinc 5 1, 3) := by decide +kernel
theorem d_Es_worthOfGroups_86 : decode y_Es_worthOfGroups.2.1 86 = .ok (.goto (-80), 3) := by decide +kernel
theorem d_Es_worthOfGroups_89 : decode y_Es_worthOfGroups.2.1 89 = .ok (.iload 4, 2) := by decide +kernel
theorem d_Es_worthOfGroups_91 : decode y_Es_worthOfGroups.2.1 91 = .ok (.ireturn, 1) := by decide +kernel
theorem d_Es_worthOfWays_0 : decode y_Es_worthOfWays.2.1 0 = .ok (.iconst 0, 1) := by decide +kernel
theorem d_Es_worthOfWays_1 : decode y_Es_worthOfWays.2.1 1 = .ok (.istore 4, 2) := by decide +kernel
theorem d_Es_worthOfWays_3 : decode y_Es_worthOfWays.2.1 3 = .ok (.iconst 0, 1) := by decide +kernel
theorem d_Es_worthOfWays_4 : decode y_Es_worthOfWays.2.1 4 = .ok (.istore 5, 2) := by decide +kernel
theorem d_Es_worthOfWays_6 : decode y_Es_worthOfWays.2.1 6 = .ok (.iload 5, 2) := by decide +kernel
theorem d_Es_worthOfWays_8 : decode y_Es_worthOfWays.2.1 8 = .ok (.aload_n 0, 1) := by decide +kernel
theorem d_Es_worthOfWays_9 : decode y_Es_worthOfWays.2.1 9 = .ok (.getfield 18, 3) := by decide +kernel
theorem d_Es_worthOfWays_12 : decode y_Es_worthOfWays.2.1 12 = .ok (.getfield 110, 3) := by decide +kernel
theorem d_Es_worthOfWays_15 : decode y_Es_worthOfWays.2.1 15 = .ok (.invokevirtual 65, 3) := by decide +kernel
theorem d_Es_worthOfWays_18 : decode y_Es_worthOfWays.2.1 18 = .ok (.if_icmp .ge 169, 3) := by decide +kernel
theorem d_Es_worthOfWays_21 : decode y_Es_worthOfWays.2.1 21 = .ok (.aload_n 0, 1) := by decide +kernel
theorem d_Es_worthOfWays_22 : decode y_Es_worthOfWays.2.1 22 = .ok (.getfield 18, 3) := by decide +kernel
theorem d_Es_worthOfWays_25 : decode y_Es_worthOfWays.2.1 25 = .ok (.getfield 110, 3) := by decide +kernel
theorem d_Es_worthOfWays_28 : decode y_Es_worthOfWays.2.1 28 = .ok (.iload 5, 2) := by decide +kernel
theorem d_Es_worthOfWays_30 : decode y_Es_worthOfWays.2.1 30 = .ok (.iconst 0, 1) := by decide +kernel
theorem d_Es_worthOfWays_31 : decode y_Es_worthOfWays.2.1 31 = .ok (.invokevirtual 70, 3) := by decide +kernel
theorem d_Es_worthOfWays_34 : decode y_Es_worthOfWays.2.1 34 = .ok (.istore 6, 2) := by decide +kernel
theorem d_Es_worthOfWays_36 : decode y_Es_worthOfWays.2.1 36 = .ok (.aload_n 0, 1) := by decide +kernel
theorem d_Es_worthOfWays_37 : decode y_Es_worthOfWays.2.1 37 = .ok (.getfield 18, 3) := by decide +kernel
theorem d_Es_worthOfWays_40 : decode y_Es_worthOfWays.2.1 40 = .ok (.getfield 110, 3) := by decide +kernel
theorem d_Es_worthOfWays_43 : decode y_Es_worthOfWays.2.1 43 = .ok (.iload 5, 2) := by decide +kernel
theorem d_Es_worthOfWays_45 : decode y_Es_worthOfWays.2.1 45 = .ok (.iconst 1, 1) := by decide +kernel
theorem d_Es_worthOfWays_46 : decode y_Es_worthOfWays.2.1 46 = .ok (.invokevirtual 70, 3) := by decide +kernel
theorem d_Es_worthOfWays_49 : decode y_Es_worthOfWays.2.1 49 = .ok (.istore 7, 2) := by decide +kernel
theorem d_Es_worthOfWays_51 : decode y_Es_worthOfWays.2.1 51 = .ok (.aload_n 0, 1) := by decide +kernel
theorem d_Es_worthOfWays_52 : decode y_Es_worthOfWays.2.1 52 = .ok (.getfield 18, 3) := by decide +kernel
theorem d_Es_worthOfWays_55 : decode y_Es_worthOfWays.2.1 55 = .ok (.getfield 110, 3) := by decide +kernel
theorem d_Es_worthOfWays_58 : decode y_Es_worthOfWays.2.1 58 = .ok (.iload 5, 2) := by decide +kernel
theorem d_Es_worthOfWays_60 : decode y_Es_worthOfWays.2.1 60 = .ok (.iconst 2, 1) := by decide +kernel
theorem d_Es_worthOfWays_61 : decode y_Es_worthOfWays.2.1 61 = .ok (.invokevirtual 70, 3) := by decide +kernel
theorem d_Es_worthOfWays_64 : decode y_Es_worthOfWays.2.1 64 = .ok (.aload_n 0, 1) := by decide +kernel
theorem d_Es_worthOfWays_65 : decode y_Es_worthOfWays.2.1 65 = .ok (.getfield 18, 3) := by decide +kernel
theorem d_Es_worthOfWays_68 : decode y_Es_worthOfWays.2.1 68 = .ok (.invokevirtual 52, 3) := by decide +kernel
theorem d_Es_worthOfWays_71 : decode y_Es_worthOfWays.2.1 71 = .ok (.imul, 1) := by decide +kernel
theorem d_Es_worthOfWays_72 : decode y_Es_worthOfWays.2.1 72 = .ok (.istore 8, 2) := by decide +kernel
theorem d_Es_worthOfWays_74 : decode y_Es_worthOfWays.2.1 74 = .ok (.aload_n 0, 1) := by decide +kernel
theorem d_Es_worthOfWays_75 : decode y_Es_worthOfWays.2.1 75 = .ok (.getfield 18, 3) := by decide +kernel
theorem d_Es_worthOfWays_78 : decode y_Es_worthOfWays.2.1 78 = .ok (.getfield 110, 3) := by decide +kernel
theorem d_Es_worthOfWays_81 : decode y_Es_worthOfWays.2.1 81 = .ok (.iload 5, 2) := by decide +kernel
theorem d_Es_worthOfWays_83 : decode y_Es_worthOfWays.2.1 83 = .ok (.iconst 3, 1) := by decide +kernel
theorem d_Es_worthOfWays_84 : decode y_Es_worthOfWays.2.1 84 = .ok (.invokevirtual 70, 3) := by decide +kernel
theorem d_Es_worthOfWays_87 : decode y_Es_worthOfWays.2.1 87 = .ok (.istore 9, 2) := by decide +kernel
theorem d_Es_worthOfWays_89 : decode y_Es_worthOfWays.2.1 89 = .ok (.iconst 0, 1) := by decide +kernel
theorem d_Es_worthOfWays_90 : decode y_Es_worthOfWays.2.1 90 = .ok (.istore 10, 2) := by decide +kernel
theorem d_Es_worthOfWays_92 : decode y_Es_worthOfWays.2.1 92 = .ok (.iload 10, 2) := by decide +kernel
theorem d_Es_worthOfWays_94 : decode y_Es_worthOfWays.2.1 94 = .ok (.iload 8, 2) := by decide +kernel
theorem d_Es_worthOfWays_96 : decode y_Es_worthOfWays.2.1 96 = .ok (.iadd, 1) := by decide +kernel
theorem d_Es_worthOfWays_97 : decode y_Es_worthOfWays.2.1 97 = .ok (.iload_n 3, 1) := by decide +kernel
theorem d_Es_worthOfWays_98 : decode y_Es_worthOfWays.2.1 98 = .ok (.if_icmp .gt 83, 3) := by decide +kernel
theorem d_Es_worthOfWays_101 : decode y_Es_worthOfWays.2.1 101 = .ok (.aload_n 1, 1) := by decide +kernel
theorem d_Es_worthOfWays_102 : decode y_Es_worthOfWays.2.1 102 = .ok (.iload_n 2, 1) := by decide +kernel
theorem d_Es_worthOfWays_103 : decode y_Es_worthOfWays.2.1 103 = .ok (.iload 10, 2) := by decide +kernel
theorem d_Es_worthOfWays_105 : decode y_Es_worthOfWays.2.1 105 = .ok (.bipush 8, 2) := by decide +kernel
theorem d_Es_worthOfWays_107 : decode y_Es_worthOfWays.2.1 107 = .ok (.iload 6, 2) := by decide +kernel
theorem d_Es_worthOfWays_109 : decode y_Es_worthOfWays.2.1 109 = .ok (.iadd, 1) := by decide +kernel
theorem d_Es_worthOfWays_110 : decode y_Es_worthOfWays.2.1 110 = .ok (.invokestatic 87, 3) := by decide +kernel
theorem d_Es_worthOfWays_113 : decode y_Es_worthOfWays.2.1 113 = .ok (.ifCond .eq 25, 3) := by decide +kernel
theorem d_Es_worthOfWays_116 : decode y_Es_worthOfWays.2.1 116 = .ok (.aload_n 1, 1) := by decide +kernel
theorem d_Es_worthOfWays_117 : decode y_Es_worthOfWays.2.1 117 = .ok (.iload_n 2, 1) := by decide +kernel
theorem d_Es_worthOfWays_118 : decode y_Es_worthOfWays.2.1 118 = .ok (.iload 10, 2) := by decide +kernel
theorem d_Es_worthOfWays_120 : decode y_Es_worthOfWays.2.1 120 = .ok (.iload 8, 2) := by decide +kernel
theorem d_Es_worthOfWays_122 : decode y_Es_worthOfWays.2.1 122 = .ok (.iadd, 1) := by decide +kernel
theorem d_Es_worthOfWays_123 : decode y_Es_worthOfWays.2.1 123 = .ok (.iload 7, 2) := by decide +kernel
theorem d_Es_worthOfWays_125 : decode y_Es_worthOfWays.2.1 125 = .ok (.invokestatic 87, 3) := by decide +kernel
theorem d_Es_worthOfWays_128 : decode y_Es_worthOfWays.2.1 128 = .ok (.ifCond .ne 10, 3) := by decide +kernel
theorem d_Es_worthOfWays_131 : decode y_Es_worthOfWays.2.1 131 = .ok (.iload 4, 2) := by decide +kernel
theorem d_Es_worthOfWays_133 : decode y_Es_worthOfWays.2.1 133 = .ok (.iload 9, 2) := by decide +kernel
theorem d_Es_worthOfWays_135 : decode y_Es_worthOfWays.2.1 135 = .ok (.iadd, 1) := by decide +kernel
theorem d_Es_worthOfWays_136 : decode y_Es_worthOfWays.2.1 136 = .ok (.istore 4, 2) := by decide +kernel
theorem d_Es_worthOfWays_138 : decode y_Es_worthOfWays.2.1 138 = .ok (.aload_n 1, 1) := by decide +kernel
theorem d_Es_worthOfWays_139 : decode y_Es_worthOfWays.2.1 139 = .ok (.iload_n 2, 1) := by decide +kernel
theorem d_Es_worthOfWays_140 : decode y_Es_worthOfWays.2.1 140 = .ok (.iload 10, 2) := by decide +kernel
theorem d_Es_worthOfWays_142 : decode y_Es_worthOfWays.2.1 142 = .ok (.bipush 8, 2) := by decide +kernel
theorem d_Es_worthOfWays_144 : decode y_Es_worthOfWays.2.1 144 = .ok (.iload 7, 2) := by decide +kernel
theorem d_Es_worthOfWays_146 : decode y_Es_worthOfWays.2.1 146 = .ok (.iadd, 1) := by decide +kernel
theorem d_Es_worthOfWays_147 : decode y_Es_worthOfWays.2.1 147 = .ok (.invokestatic 87, 3) := by decide +kernel
theorem d_Es_worthOfWays_150 : decode y_Es_worthOfWays.2.1 150 = .ok (.ifCond .eq 25, 3) := by decide +kernel
theorem d_Es_worthOfWays_153 : decode y_Es_worthOfWays.2.1 153 = .ok (.aload_n 1, 1) := by decide +kernel
theorem d_Es_worthOfWays_154 : decode y_Es_worthOfWays.2.1 154 = .ok (.iload_n 2, 1) := by decide +kernel
theorem d_Es_worthOfWays_155 : decode y_Es_worthOfWays.2.1 155 = .ok (.iload 10, 2) := by decide +kernel
theorem d_Es_worthOfWays_157 : decode y_Es_worthOfWays.2.1 157 = .ok (.iload 8, 2) := by decide +kernel
theorem d_Es_worthOfWays_159 : decode y_Es_worthOfWays.2.1 159 = .ok (.iadd, 1) := by decide +kernel
theorem d_Es_worthOfWays_160 : decode y_Es_worthOfWays.2.1 160 = .ok (.iload 6, 2) := by decide +kernel
theorem d_Es_worthOfWays_162 : decode y_Es_worthOfWays.2.1 162 = .ok (.invokestatic 87, 3) := by decide +kernel
theorem d_Es_worthOfWays_165 : decode y_Es_worthOfWays.2.1 165 = .ok (.ifCond .ne 10, 3) := by decide +kernel
theorem d_Es_worthOfWays_168 : decode y_Es_worthOfWays.2.1 168 = .ok (.iload 4, 2) := by decide +kernel
theorem d_Es_worthOfWays_170 : decode y_Es_worthOfWays.2.1 170 = .ok (.iload 9, 2) := by decide +kernel
theorem d_Es_worthOfWays_172 : decode y_Es_worthOfWays.2.1 172 = .ok (.iadd, 1) := by decide +kernel
theorem d_Es_worthOfWays_173 : decode y_Es_worthOfWays.2.1 173 = .ok (.istore 4, 2) := by decide +kernel
theorem d_Es_worthOfWays_175 : decode y_Es_worthOfWays.2.1 175 = .ok (.iinc 10 1, 3) := by decide +kernel
theorem d_Es_worthOfWays_178 : decode y_Es_worthOfWays.2.1 178 = .ok (.goto (-86), 3) := by decide +kernel
theorem d_Es_worthOfWays_181 : decode y_Es_worthOfWays.2.1 181 = .ok (.iinc 5 1, 3) := by decide +kernel
theorem d_Es_worthOfWays_184 : decode y_Es_worthOfWays.2.1 184 = .ok (.goto (-178), 3) := by decide +kernel
theorem d_Es_worthOfWays_187 : decode y_Es_worthOfWays.2.1 187 = .ok (.iload 4, 2) := by decide +kernel
theorem d_Es_worthOfWays_189 : decode y_Es_worthOfWays.2.1 189 = .ok (.ireturn, 1) := by decide +kernel
theorem d_Es_isIn_0 : decode y_Es_isIn.2.1 0 = .ok (.aload_n 0, 1) := by decide +kernel
theorem d_Es_isIn_1 : decode y_Es_isIn.2.1 1 = .ok (.iload_n 1, 1) := by decide +kernel
theorem d_Es_isIn_2 : decode y_Es_isIn.2.1 2 = .ok (.iload_n 2, 1) := by decide +kernel
theorem d_Es_isIn_3 : decode y_Es_isIn.2.1 3 = .ok (.invokevirtual 113, 3) := by decide +kernel
theorem d_Es_isIn_6 : decode y_Es_isIn.2.1 6 = .ok (.iload_n 3, 1) := by decide +kernel
theorem d_Es_isIn_7 : decode y_Es_isIn.2.1 7 = .ok (.lshr, 1) := by decide +kernel
theorem d_Es_isIn_8 : decode y_Es_isIn.2.1 8 = .ok (.lconst 1, 1) := by decide +kernel
theorem d_Es_isIn_9 : decode y_Es_isIn.2.1 9 = .ok (.land, 1) := by decide +kernel
theorem d_Es_isIn_10 : decode y_Es_isIn.2.1 10 = .ok (.lconst 1, 1) := by decide +kernel
theorem d_Es_isIn_11 : decode y_Es_isIn.2.1 11 = .ok (.lcmp, 1) := by decide +kernel
theorem d_Es_isIn_12 : decode y_Es_isIn.2.1 12 = .ok (.ifCond .ne 7, 3) := by decide +kernel
theorem d_Es_isIn_15 : decode y_Es_isIn.2.1 15 = .ok (.iconst 1, 1) := by decide +kernel
theorem d_Es_isIn_16 : decode y_Es_isIn.2.1 16 = .ok (.goto 4, 3) := by decide +kernel
theorem d_Es_isIn_19 : decode y_Es_isIn.2.1 19 = .ok (.iconst 0, 1) := by decide +kernel
theorem d_Es_isIn_20 : decode y_Es_isIn.2.1 20 = .ok (.ireturn, 1) := by decide +kernel
theorem d_Es_begin_0 : decode y_Es_begin.2.1 0 = .ok (.iconst 2, 1) := by decide +kernel
theorem d_Es_begin_1 : decode y_Es_begin.2.1 1 = .ok (.iload_n 1, 1) := by decide +kernel
theorem d_Es_begin_2 : decode y_Es_begin.2.1 2 = .ok (.bipush 8, 2) := by decide +kernel
theorem d_Es_begin_4 : decode y_Es_begin.2.1 4 = .ok (.imul, 1) := by decide +kernel
theorem d_Es_begin_5 : decode y_Es_begin.2.1 5 = .ok (.iload_n 0, 1) := by decide +kernel
theorem d_Es_begin_6 : decode y_Es_begin.2.1 6 = .ok (.iadd, 1) := by decide +kernel
theorem d_Es_begin_7 : decode y_Es_begin.2.1 7 = .ok (.imul, 1) := by decide +kernel
theorem d_Es_begin_8 : decode y_Es_begin.2.1 8 = .ok (.ireturn, 1) := by decide +kernel
theorem d_Es_being_0 : decode y_Es_being.2.1 0 = .ok (.iconst 2, 1) := by decide +kernel
theorem d_Es_being_1 : decode y_Es_being.2.1 1 = .ok (.iload_n 1, 1) := by decide +kernel
theorem d_Es_being_2 : decode y_Es_being.2.1 2 = .ok (.bipush 8, 2) := by decide +kernel
theorem d_Es_being_4 : decode y_Es_being.2.1 4 = .ok (.imul, 1) := by decide +kernel
theorem d_Es_being_5 : decode y_Es_being.2.1 5 = .ok (.iload_n 0, 1) := by decide +kernel
theorem d_Es_being_6 : decode y_Es_being.2.1 6 = .ok (.iadd, 1) := by decide +kernel
theorem d_Es_being_7 : decode y_Es_being.2.1 7 = .ok (.imul, 1) := by decide +kernel
theorem d_Es_being_8 : decode y_Es_being.2.1 8 = .ok (.iconst 1, 1) := by decide +kernel
theorem d_Es_being_9 : decode y_Es_being.2.1 9 = .ok (.iadd, 1) := by decide +kernel
theorem d_Es_being_10 : decode y_Es_being.2.1 10 = .ok (.ireturn, 1) := by decide +kernel
theorem d_Es_joinRooms_0 : decode y_Es_joinRooms.2.1 0 = .ok (.iconst 0, 1) := by decide +kernel
theorem d_Es_joinRooms_1 : decode y_Es_joinRooms.2.1 1 = .ok (.istore_n 2, 1) := by decide +kernel
theorem d_Es_joinRooms_2 : decode y_Es_joinRooms.2.1 2 = .ok (.iload_n 2, 1) := by decide +kernel
theorem d_Es_joinRooms_3 : decode y_Es_joinRooms.2.1 3 = .ok (.aload_n 0, 1) := by decide +kernel
theorem d_Es_joinRooms_4 : decode y_Es_joinRooms.2.1 4 = .ok (.getfield 18, 3) := by decide +kernel
theorem d_Es_joinRooms_7 : decode y_Es_joinRooms.2.1 7 = .ok (.getfield 74, 3) := by decide +kernel
theorem d_Es_joinRooms_10 : decode y_Es_joinRooms.2.1 10 = .ok (.invokevirtual 65, 3) := by decide +kernel
theorem d_Es_joinRooms_13 : decode y_Es_joinRooms.2.1 13 = .ok (.if_icmp .ge 103, 3) := by decide +kernel
theorem d_Es_joinRooms_16 : decode y_Es_joinRooms.2.1 16 = .ok (.aload_n 0, 1) := by decide +kernel
theorem d_Es_joinRooms_17 : decode y_Es_joinRooms.2.1 17 = .ok (.getfield 18, 3) := by decide +kernel
theorem d_Es_joinRooms_20 : decode y_Es_joinRooms.2.1 20 = .ok (.getfield 74, 3) := by decide +kernel
theorem d_Es_joinRooms_23 : decode y_Es_joinRooms.2.1 23 = .ok (.iload_n 2, 1) := by decide +kernel
theorem d_Es_joinRooms_24 : decode y_Es_joinRooms.2.1 24 = .ok (.iconst 0, 1) := by decide +kernel
theorem d_Es_joinRooms_25 : decode y_Es_joinRooms.2.1 25 = .ok (.invokevirtual 70, 3) := by decide +kernel
theorem d_Es_joinRooms_28 : decode y_Es_joinRooms.2.1 28 = .ok (.istore_n 3, 1) := by decide +kernel
theorem d_Es_joinRooms_29 : decode y_Es_joinRooms.2.1 29 = .ok (.iconst 0, 1) := by decide +kernel
theorem d_Es_joinRooms_30 : decode y_Es_joinRooms.2.1 30 = .ok (.istore 4, 2) := by decide +kernel
theorem d_Es_joinRooms_32 : decode y_Es_joinRooms.2.1 32 = .ok (.iload 4, 2) := by decide +kernel
theorem d_Es_joinRooms_34 : decode y_Es_joinRooms.2.1 34 = .ok (.iload_n 1, 1) := by decide +kernel
theorem d_Es_joinRooms_35 : decode y_Es_joinRooms.2.1 35 = .ok (.if_icmp .gt 75, 3) := by decide +kernel
theorem d_Es_joinRooms_38 : decode y_Es_joinRooms.2.1 38 = .ok (.aload_n 0, 1) := by decide +kernel
theorem d_Es_joinRooms_39 : decode y_Es_joinRooms.2.1 39 = .ok (.getfield 12, 3) := by decide +kernel
theorem d_Es_joinRooms_42 : decode y_Es_joinRooms.2.1 42 = .ok (.iload_n 2, 1) := by decide +kernel
theorem d_Es_joinRooms_43 : decode y_Es_joinRooms.2.1 43 = .ok (.iload 4, 2) := by decide +kernel
theorem d_Es_joinRooms_45 : decode y_Es_joinRooms.2.1 45 = .ok (.invokestatic 77, 3) := by decide +kernel
theorem d_Es_joinRooms_48 : decode y_Es_joinRooms.2.1 48 = .ok (.iload_n 2, 1) := by decide +kernel
theorem d_Es_joinRooms_49 : decode y_Es_joinRooms.2.1 49 = .ok (.iload 4, 2) := by decide +kernel
theorem d_Es_joinRooms_51 : decode y_Es_joinRooms.2.1 51 = .ok (.invokestatic 84, 3) := by decide +kernel
theorem d_Es_joinRooms_54 : decode y_Es_joinRooms.2.1 54 = .ok (.aload_n 0, 1) := by decide +kernel
theorem d_Es_joinRooms_55 : decode y_Es_joinRooms.2.1 55 = .ok (.getfield 22, 3) := by decide +kernel
theorem d_Es_joinRooms_58 : decode y_Es_joinRooms.2.1 58 = .ok (.iload_n 2, 1) := by decide +kernel
theorem d_Es_joinRooms_59 : decode y_Es_joinRooms.2.1 59 = .ok (.iload 4, 2) := by decide +kernel
theorem d_Es_joinRooms_61 : decode y_Es_joinRooms.2.1 61 = .ok (.invokevirtual 91, 3) := by decide +kernel
theorem d_Es_joinRooms_64 : decode y_Es_joinRooms.2.1 64 = .ok (.ifCond .eq 7, 3) := by decide +kernel
theorem d_Es_joinRooms_67 : decode y_Es_joinRooms.2.1 67 = .ok (.iconst 0, 1) := by decide +kernel
theorem d_Es_joinRooms_68 : decode y_Es_joinRooms.2.1 68 = .ok (.goto 4, 3) := by decide +kernel
theorem d_Es_joinRooms_71 : decode y_Es_joinRooms.2.1 71 = .ok (.iload_n 3, 1) := by decide +kernel
theorem d_Es_joinRooms_72 : decode y_Es_joinRooms.2.1 72 = .ok (.invokevirtual 118, 3) := by decide +kernel
theorem d_Es_joinRooms_75 : decode y_Es_joinRooms.2.1 75 = .ok (.iload 4, 2) := by decide +kernel
theorem d_Es_joinRooms_77 : decode y_Es_joinRooms.2.1 77 = .ok (.iload_n 1, 1) := by decide +kernel
theorem d_Es_joinRooms_78 : decode y_Es_joinRooms.2.1 78 = .ok (.if_icmp .ge 26, 3) := by decide +kernel
theorem d_Es_joinRooms_81 : decode y_Es_joinRooms.2.1 81 = .ok (.aload_n 0, 1) := by decide +kernel
theorem d_Es_joinRooms_82 : decode y_Es_joinRooms.2.1 82 = .ok (.getfield 12, 3) := by decide +kernel
theorem d_Es_joinRooms_85 : decode y_Es_joinRooms.2.1 85 = .ok (.iload_n 2, 1) := by decide +kernel
theorem d_Es_joinRooms_86 : decode y_Es_joinRooms.2.1 86 = .ok (.iload 4, 2) := by decide +kernel
theorem d_Es_joinRooms_88 : decode y_Es_joinRooms.2.1 88 = .ok (.invokestatic 84, 3) := by decide +kernel
theorem d_Es_joinRooms_91 : decode y_Es_joinRooms.2.1 91 = .ok (.iload_n 2, 1) := by decide +kernel
theorem d_Es_joinRooms_92 : decode y_Es_joinRooms.2.1 92 = .ok (.iload 4, 2) := by decide +kernel
theorem d_Es_joinRooms_94 : decode y_Es_joinRooms.2.1 94 = .ok (.iconst 1, 1) := by decide +kernel
theorem d_Es_joinRooms_95 : decode y_Es_joinRooms.2.1 95 = .ok (.iadd, 1) := by decide +kernel
theorem d_Es_joinRooms_96 : decode y_Es_joinRooms.2.1 96 = .ok (.invokestatic 77, 3) := by decide +kernel
theorem d_Es_joinRooms_99 : decode y_Es_joinRooms.2.1 99 = .ok (.ldc 122, 2) := by decide +kernel
theorem d_Es_joinRooms_101 : decode y_Es_joinRooms.2.1 101 = .ok (.invokevirtual 118, 3) := by decide +kernel
theorem d_Es_joinRooms_104 : decode y_Es_joinRooms.2.1 104 = .ok (.iinc 4 1, 3) := by decide +kernel
theorem d_Es_joinRooms_107 : decode y_Es_joinRooms.2.1 107 = .ok (.goto (-75), 3) := by decide +kernel
theorem d_Es_joinRooms_110 : decode y_Es_joinRooms.2.1 110 = .ok (.iinc 2 1, 3) := by decide +kernel
theorem d_Es_joinRooms_113 : decode y_Es_joinRooms.2.1 113 = .ok (.goto (-111), 3) := by decide +kernel
theorem d_Es_joinRooms_116 : decode y_Es_joinRooms.2.1 116 = .ok (.return_, 1) := by decide +kernel
theorem d_Es_joinWays_0 : decode y_Es_joinWays.2.1 0 = .ok (.iconst 0, 1) := by decide +kernel
theorem d_Es_joinWays_1 : decode y_Es_joinWays.2.1 1 = .ok (.istore_n 3, 1) := by decide +kernel
theorem d_Es_joinWays_2 : decode y_Es_joinWays.2.1 2 = .ok (.iload_n 3, 1) := by decide +kernel
theorem d_Es_joinWays_3 : decode y_Es_joinWays.2.1 3 = .ok (.aload_n 0, 1) := by decide +kernel
theorem d_Es_joinWays_4 : decode y_Es_joinWays.2.1 4 = .ok (.getfield 18, 3) := by decide +kernel
theorem d_Es_joinWays_7 : decode y_Es_joinWays.2.1 7 = .ok (.getfield 110, 3) := by decide +kernel
theorem d_Es_joinWays_10 : decode y_Es_joinWays.2.1 10 = .ok (.invokevirtual 65, 3) := by decide +kernel
theorem d_Es_joinWays_13 : decode y_Es_joinWays.2.1 13 = .ok (.if_icmp .ge 137, 3) := by decide +kernel
theorem d_Es_joinWays_16 : decode y_Es_joinWays.2.1 16 = .ok (.aload_n 0, 1) := by decide +kernel
theorem d_Es_joinWays_17 : decode y_Es_joinWays.2.1 17 = .ok (.getfield 18, 3) := by decide +kernel
theorem d_Es_joinWays_20 : decode y_Es_joinWays.2.1 20 = .ok (.getfield 110, 3) := by decide +kernel
theorem d_Es_joinWays_23 : decode y_Es_joinWays.2.1 23 = .ok (.iload_n 3, 1) := by decide +kernel
theorem d_Es_joinWays_24 : decode y_Es_joinWays.2.1 24 = .ok (.iconst 0, 1) := by decide +kernel
theorem d_Es_joinWays_25 : decode y_Es_joinWays.2.1 25 = .ok (.invokevirtual 70, 3) := by decide +kernel
theorem d_Es_joinWays_28 : decode y_Es_joinWays.2.1 28 = .ok (.istore 4, 2) := by decide +kernel
theorem d_Es_joinWays_30 : decode y_Es_joinWays.2.1 30 = .ok (.aload_n 0, 1) := by decide +kernel
theorem d_Es_joinWays_31 : decode y_Es_joinWays.2.1 31 = .ok (.getfield 18, 3) := by decide +kernel
theorem d_Es_joinWays_34 : decode y_Es_joinWays.2.1 34 = .ok (.getfield 110, 3) := by decide +kernel
theorem d_Es_joinWays_37 : decode y_Es_joinWays.2.1 37 = .ok (.iload_n 3, 1) := by decide +kernel
theorem d_Es_joinWays_38 : decode y_Es_joinWays.2.1 38 = .ok (.iconst 1, 1) := by decide +kernel
theorem d_Es_joinWays_39 : decode y_Es_joinWays.2.1 39 = .ok (.invokevirtual 70, 3) := by decide +kernel
theorem d_Es_joinWays_42 : decode y_Es_joinWays.2.1 42 = .ok (.istore 5, 2) := by decide +kernel
theorem d_Es_joinWays_44 : decode y_Es_joinWays.2.1 44 = .ok (.aload_n 0, 1) := by decide +kernel
theorem d_Es_joinWays_45 : decode y_Es_joinWays.2.1 45 = .ok (.getfield 18, 3) := by decide +kernel
theorem d_Es_joinWays_48 : decode y_Es_joinWays.2.1 48 = .ok (.getfield 110, 3) := by decide +kernel
theorem d_Es_joinWays_51 : decode y_Es_joinWays.2.1 51 = .ok (.iload_n 3, 1) := by decide +kernel
theorem d_Es_joinWays_52 : decode y_Es_joinWays.2.1 52 = .ok (.iconst 2, 1) := by decide +kernel
theorem d_Es_joinWays_53 : decode y_Es_joinWays.2.1 53 = .ok (.invokevirtual 70, 3) := by decide +kernel
theorem d_Es_joinWays_56 : decode y_Es_joinWays.2.1 56 = .ok (.iload_n 2, 1) := by decide +kernel
theorem d_Es_joinWays_57 : decode y_Es_joinWays.2.1 57 = .ok (.imul, 1) := by decide +kernel
theorem d_Es_joinWays_58 : decode y_Es_joinWays.2.1 58 = .ok (.istore 6, 2) := by decide +kernel
theorem d_Es_joinWays_60 : decode y_Es_joinWays.2.1 60 = .ok (.aload_n 0, 1) := by decide +kernel
theorem d_Es_joinWays_61 : decode y_Es_joinWays.2.1 61 = .ok (.getfield 18, 3) := by decide +kernel
theorem d_Es_joinWays_64 : decode y_Es_joinWays.2.1 64 = .ok (.getfield 110, 3) := by decide +kernel
theorem d_Es_joinWays_67 : decode y_Es_joinWays.2.1 67 = .ok (.iload_n 3, 1) := by decide +kernel
theorem d_Es_joinWays_68 : decode y_Es_joinWays.2.1 68 = .ok (.iconst 3, 1) := by decide +kernel
theorem d_Es_joinWays_69 : decode y_Es_joinWays.2.1 69 = .ok (.invokevirtual 70, 3) := by decide +kernel
theorem d_Es_joinWays_72 : decode y_Es_joinWays.2.1 72 = .ok (.istore 7, 2) := by decide +kernel
theorem d_Es_joinWays_74 : decode y_Es_joinWays.2.1 74 = .ok (.iconst 0, 1) := by decide +kernel
theorem d_Es_joinWays_75 : decode y_Es_joinWays.2.1 75 = .ok (.istore 8, 2) := by decide +kernel
theorem d_Es_joinWays_77 : decode y_Es_joinWays.2.1 77 = .ok (.iload 8, 2) := by decide +kernel
theorem d_Es_joinWays_79 : decode y_Es_joinWays.2.1 79 = .ok (.iload 6, 2) := by decide +kernel
theorem d_Es_joinWays_81 : decode y_Es_joinWays.2.1 81 = .ok (.iadd, 1) := by decide +kernel
theorem d_Es_joinWays_82 : decode y_Es_joinWays.2.1 82 = .ok (.iload_n 1, 1) := by decide +kernel
theorem d_Es_joinWays_83 : decode y_Es_joinWays.2.1 83 = .ok (.if_icmp .gt 61, 3) := by decide +kernel
theorem d_Es_joinWays_86 : decode y_Es_joinWays.2.1 86 = .ok (.aload_n 0, 1) := by decide +kernel
theorem d_Es_joinWays_87 : decode y_Es_joinWays.2.1 87 = .ok (.getfield 12, 3) := by decide +kernel
theorem d_Es_joinWays_90 : decode y_Es_joinWays.2.1 90 = .ok (.iload 4, 2) := by decide +kernel
theorem d_Es_joinWays_92 : decode y_Es_joinWays.2.1 92 = .ok (.iload 8, 2) := by decide +kernel
theorem d_Es_joinWays_94 : decode y_Es_joinWays.2.1 94 = .ok (.invokestatic 84, 3) := by decide +kernel
theorem d_Es_joinWays_97 : decode y_Es_joinWays.2.1 97 = .ok (.iload 5, 2) := by decide +kernel
theorem d_Es_joinWays_99 : decode y_Es_joinWays.2.1 99 = .ok (.iload 8, 2) := by decide +kernel
theorem d_Es_joinWays_101 : decode y_Es_joinWays.2.1 101 = .ok (.iload 6, 2) := by decide +kernel
theorem d_Es_joinWays_103 : decode y_Es_joinWays.2.1 103 = .ok (.iadd, 1) := by decide +kernel
theorem d_Es_joinWays_104 : decode y_Es_joinWays.2.1 104 = .ok (.invokestatic 77, 3) := by decide +kernel
theorem d_Es_joinWays_107 : decode y_Es_joinWays.2.1 107 = .ok (.iload 7, 2) := by decide +kernel
theorem d_Es_joinWays_109 : decode y_Es_joinWays.2.1 109 = .ok (.invokevirtual 118, 3) := by decide +kernel
theorem d_Es_joinWays_112 : decode y_Es_joinWays.2.1 112 = .ok (.aload_n 0, 1) := by decide +kernel
theorem d_Es_joinWays_113 : decode y_Es_joinWays.2.1 113 = .ok (.getfield 12, 3) := by decide +kernel
theorem d_Es_joinWays_116 : decode y_Es_joinWays.2.1 116 = .ok (.iload 5, 2) := by decide +kernel
theorem d_Es_joinWays_118 : decode y_Es_joinWays.2.1 118 = .ok (.iload 8, 2) := by decide +kernel
theorem d_Es_joinWays_120 : decode y_Es_joinWays.2.1 120 = .ok (.invokestatic 84, 3) := by decide +kernel
theorem d_Es_joinWays_123 : decode y_Es_joinWays.2.1 123 = .ok (.iload 4, 2) := by decide +kernel
theorem d_Es_joinWays_125 : decode y_Es_joinWays.2.1 125 = .ok (.iload 8, 2) := by decide +kernel
theorem d_Es_joinWays_127 : decode y_Es_joinWays.2.1 127 = .ok (.iload 6, 2) := by decide +kernel
theorem d_Es_joinWays_129 : decode y_Es_joinWays.2.1 129 = .ok (.iadd, 1) := by decide +kernel
theorem d_Es_joinWays_130 : decode y_Es_joinWays.2.1 130 = .ok (.invokestatic 77, 3) := by decide +kernel
theorem d_Es_joinWays_133 : decode y_Es_joinWays.2.1 133 = .ok (.iload 7, 2) := by decide +kernel
theorem d_Es_joinWays_135 : decode y_Es_joinWays.2.1 135 = .ok (.invokevirtual 118, 3) := by decide +kernel
theorem d_Es_joinWays_138 : decode y_Es_joinWays.2.1 138 = .ok (.iinc 8 1, 3) := by decide +kernel
theorem d_Es_joinWays_141 : decode y_Es_joinWays.2.1 141 = .ok (.goto (-64), 3) := by decide +kernel
theorem d_Es_joinWays_144 : decode y_Es_joinWays.2.1 144 = .ok (.iinc 3 1, 3) := by decide +kernel
theorem d_Es_joinWays_147 : decode y_Es_joinWays.2.1 147 = .ok (.goto (-145), 3) := by decide +kernel
theorem d_Es_joinWays_150 : decode y_Es_joinWays.2.1 150 = .ok (.return_, 1) := by decide +kernel
theorem d_Es_joinExits_0 : decode y_Es_joinExits.2.1 0 = .ok (.iconst 0, 1) := by decide +kernel
theorem d_Es_joinExits_1 : decode y_Es_joinExits.2.1 1 = .ok (.istore_n 3, 1) := by decide +kernel
theorem d_Es_joinExits_2 : decode y_Es_joinExits.2.1 2 = .ok (.iload_n 3, 1) := by decide +kernel
theorem d_Es_joinExits_3 : decode y_Es_joinExits.2.1 3 = .ok (.aload_n 0, 1) := by decide +kernel
theorem d_Es_joinExits_4 : decode y_Es_joinExits.2.1 4 = .ok (.getfield 18, 3) := by decide +kernel
theorem d_Es_joinExits_7 : decode y_Es_joinExits.2.1 7 = .ok (.getfield 74, 3) := by decide +kernel
theorem d_Es_joinExits_10 : decode y_Es_joinExits.2.1 10 = .ok (.invokevirtual 65, 3) := by decide +kernel
theorem d_Es_joinExits_13 : decode y_Es_joinExits.2.1 13 = .ok (.if_icmp .ge 53, 3) := by decide +kernel
theorem d_Es_joinExits_16 : decode y_Es_joinExits.2.1 16 = .ok (.aload_n 0, 1) := by decide +kernel
theorem d_Es_joinExits_17 : decode y_Es_joinExits.2.1 17 = .ok (.getfield 18, 3) := by decide +kernel
theorem d_Es_joinExits_20 : decode y_Es_joinExits.2.1 20 = .ok (.iload_n 3, 1) := by decide +kernel
theorem d_Es_joinExits_21 : decode y_Es_joinExits.2.1 21 = .ok (.iload_n 2, 1) := by decide +kernel
theorem d_Es_joinExits_22 : decode y_Es_joinExits.2.1 22 = .ok (.invokevirtual 97, 3) := by decide +kernel
theorem d_Es_joinExits_25 : decode y_Es_joinExits.2.1 25 = .ok (.istore 4, 2) := by decide +kernel
theorem d_Es_joinExits_27 : decode y_Es_joinExits.2.1 27 = .ok (.iconst 0, 1) := by decide +kernel
theorem d_Es_joinExits_28 : decode y_Es_joinExits.2.1 28 = .ok (.istore 5, 2) := by decide +kernel
theorem d_Es_joinExits_30 : decode y_Es_joinExits.2.1 30 = .ok (.iload 5, 2) := by decide +kernel
theorem d_Es_joinExits_32 : decode y_Es_joinExits.2.1 32 = .ok (.iload_n 1, 1) := by decide +kernel
theorem d_Es_joinExits_33 : decode y_Es_joinExits.2.1 33 = .ok (.if_icmp .ge 27, 3) := by decide +kernel
theorem d_Es_joinExits_36 : decode y_Es_joinExits.2.1 36 = .ok (.aload_n 0, 1) := by decide +kernel
theorem d_Es_joinExits_37 : decode y_Es_joinExits.2.1 37 = .ok (.getfield 12, 3) := by decide +kernel
theorem d_Es_joinExits_40 : decode y_Es_joinExits.2.1 40 = .ok (.iload_n 3, 1) := by decide +kernel
theorem d_Es_joinExits_41 : decode y_Es_joinExits.2.1 41 = .ok (.iload 5, 2) := by decide +kernel
theorem d_Es_joinExits_43 : decode y_Es_joinExits.2.1 43 = .ok (.invokestatic 84, 3) := by decide +kernel
theorem d_Es_joinExits_46 : decode y_Es_joinExits.2.1 46 = .ok (.sipush 337, 3) := by decide +kernel
theorem d_Es_joinExits_49 : decode y_Es_joinExits.2.1 49 = .ok (.iload 4, 2) := by decide +kernel
theorem d_Es_joinExits_51 : decode y_Es_joinExits.2.1 51 = .ok (.invokevirtual 118, 3) := by decide +kernel
theorem d_Es_joinExits_54 : decode y_Es_joinExits.2.1 54 = .ok (.iinc 5 1, 3) := by decide +kernel
theorem d_Es_joinExits_57 : decode y_Es_joinExits.2.1 57 = .ok (.goto (-27), 3) := by decide +kernel
theorem d_Es_joinExits_60 : decode y_Es_joinExits.2.1 60 = .ok (.iinc 3 1, 3) := by decide +kernel
theorem d_Es_joinExits_63 : decode y_Es_joinExits.2.1 63 = .ok (.goto (-61), 3) := by decide +kernel
theorem d_Es_joinExits_66 : decode y_Es_joinExits.2.1 66 = .ok (.return_, 1) := by decide +kernel
theorem d_Es_joinGroups_0 : decode y_Es_joinGroups.2.1 0 = .ok (.iconst 0, 1) := by decide +kernel
theorem d_Es_joinGroups_1 : decode y_Es_joinGroups.2.1 1 = .ok (.istore_n 2, 1) := by decide +kernel
theorem d_Es_joinGroups_2 : decode y_Es_joinGroups.2.1 2 = .ok (.iload_n 2, 1) := by decide +kernel
theorem d_Es_joinGroups_3 : decode y_Es_joinGroups.2.1 3 = .ok (.aload_n 0, 1) := by decide +kernel
theorem d_Es_joinGroups_4 : decode y_Es_joinGroups.2.1 4 = .ok (.getfield 18, 3) := by decide +kernel
theorem d_Es_joinGroups_7 : decode y_Es_joinGroups.2.1 7 = .ok (.getfield 107, 3) := by decide +kernel
theorem d_Es_joinGroups_10 : decode y_Es_joinGroups.2.1 10 = .ok (.invokevirtual 65, 3) := by decide +kernel
theorem d_Es_joinGroups_13 : decode y_Es_joinGroups.2.1 13 = .ok (.if_icmp .ge 69, 3) := by decide +kernel
theorem d_Es_joinGroups_16 : decode y_Es_joinGroups.2.1 16 = .ok (.aload_n 0, 1) := by decide +kernel
theorem d_Es_joinGroups_17 : decode y_Es_joinGroups.2.1 17 = .ok (.getfield 18, 3) := by decide +kernel
theorem d_Es_joinGroups_20 : decode y_Es_joinGroups.2.1 20 = .ok (.getfield 107, 3) := by decide +kernel
theorem d_Es_joinGroups_23 : decode y_Es_joinGroups.2.1 23 = .ok (.iload_n 2, 1) := by decide +kernel
theorem d_Es_joinGroups_24 : decode y_Es_joinGroups.2.1 24 = .ok (.iconst 2, 1) := by decide +kernel
theorem d_Es_joinGroups_25 : decode y_Es_joinGroups.2.1 25 = .ok (.invokevirtual 70, 3) := by decide +kernel
theorem d_Es_joinGroups_28 : decode y_Es_joinGroups.2.1 28 = .ok (.istore_n 3, 1) := by decide +kernel
theorem d_Es_joinGroups_29 : decode y_Es_joinGroups.2.1 29 = .ok (.iload_n 3, 1) := by decide +kernel
theorem d_Es_joinGroups_30 : decode y_Es_joinGroups.2.1 30 = .ok (.iload_n 1, 1) := by decide +kernel
theorem d_Es_joinGroups_31 : decode y_Es_joinGroups.2.1 31 = .ok (.if_icmp .gt 45, 3) := by decide +kernel
theorem d_Es_joinGroups_34 : decode y_Es_joinGroups.2.1 34 = .ok (.aload_n 0, 1) := by decide +kernel
theorem d_Es_joinGroups_35 : decode y_Es_joinGroups.2.1 35 = .ok (.getfield 18, 3) := by decide +kernel
theorem d_Es_joinGroups_38 : decode y_Es_joinGroups.2.1 38 = .ok (.getfield 107, 3) := by decide +kernel
theorem d_Es_joinGroups_41 : decode y_Es_joinGroups.2.1 41 = .ok (.iload_n 2, 1) := by decide +kernel
theorem d_Es_joinGroups_42 : decode y_Es_joinGroups.2.1 42 = .ok (.iconst 0, 1) := by decide +kernel
theorem d_Es_joinGroups_43 : decode y_Es_joinGroups.2.1 43 = .ok (.invokevirtual 70, 3) := by decide +kernel
theorem d_Es_joinGroups_46 : decode y_Es_joinGroups.2.1 46 = .ok (.istore 4, 2) := by decide +kernel
theorem d_Es_joinGroups_48 : decode y_Es_joinGroups.2.1 48 = .ok (.aload_n 0, 1) := by decide +kernel
theorem d_Es_joinGroups_49 : decode y_Es_joinGroups.2.1 49 = .ok (.getfield 12, 3) := by decide +kernel
theorem d_Es_joinGroups_52 : decode y_Es_joinGroups.2.1 52 = .ok (.sipush 336, 3) := by decide +kernel
theorem d_Es_joinGroups_55 : decode y_Es_joinGroups.2.1 55 = .ok (.iload 4, 2) := by decide +kernel
theorem d_Es_joinGroups_57 : decode y_Es_joinGroups.2.1 57 = .ok (.iload_n 3, 1) := by decide +kernel
theorem d_Es_joinGroups_58 : decode y_Es_joinGroups.2.1 58 = .ok (.invokestatic 77, 3) := by decide +kernel
theorem d_Es_joinGroups_61 : decode y_Es_joinGroups.2.1 61 = .ok (.aload_n 0, 1) := by decide +kernel
theorem d_Es_joinGroups_62 : decode y_Es_joinGroups.2.1 62 = .ok (.getfield 18, 3) := by decide +kernel
theorem d_Es_joinGroups_65 : decode y_Es_joinGroups.2.1 65 = .ok (.getfield 107, 3) := by decide +kernel
theorem d_Es_joinGroups_68 : decode y_Es_joinGroups.2.1 68 = .ok (.iload_n 2, 1) := by decide +kernel
theorem d_Es_joinGroups_69 : decode y_Es_joinGroups.2.1 69 = .ok (.iconst 1, 1) := by decide +kernel
theorem d_Es_joinGroups_70 : decode y_Es_joinGroups.2.1 70 = .ok (.invokevirtual 70, 3) := by decide +kernel
theorem d_Es_joinGroups_73 : decode y_Es_joinGroups.2.1 73 = .ok (.invokevirtual 118, 3) := by decide +kernel
theorem d_Es_joinGroups_76 : decode y_Es_joinGroups.2.1 76 = .ok (.iinc 2 1, 3) := by decide +kernel
theorem d_Es_joinGroups_79 : decode y_Es_joinGroups.2.1 79 = .ok (.goto (-77), 3) := by decide +kernel
theorem d_Es_joinGroups_82 : decode y_Es_joinGroups.2.1 82 = .ok (.return_, 1) := by decide +kernel
theorem d_Ho_init_0 : decode y_Ho_init.2.1 0 = .ok (.aload_n 0, 1) := by decide +kernel
theorem d_Ho_init_1 : decode y_Ho_init.2.1 1 = .ok (.invokespecial 3, 3) := by decide +kernel
theorem d_Ho_init_4 : decode y_Ho_init.2.1 4 = .ok (.aload_n 0, 1) := by decide +kernel
theorem d_Ho_init_5 : decode y_Ho_init.2.1 5 = .ok (.new 9, 3) := by decide +kernel
theorem d_Ho_init_8 : decode y_Ho_init.2.1 8 = .ok (.dup, 1) := by decide +kernel
theorem d_Ho_init_9 : decode y_Ho_init.2.1 9 = .ok (.bipush 8, 2) := by decide +kernel
theorem d_Ho_init_11 : decode y_Ho_init.2.1 11 = .ok (.invokespecial 11, 3) := by decide +kernel
theorem d_Ho_init_14 : decode y_Ho_init.2.1 14 = .ok (.putfield 14, 3) := by decide +kernel
theorem d_Ho_init_17 : decode y_Ho_init.2.1 17 = .ok (.aload_n 0, 1) := by decide +kernel
theorem d_Ho_init_18 : decode y_Ho_init.2.1 18 = .ok (.new 9, 3) := by decide +kernel
theorem d_Ho_init_21 : decode y_Ho_init.2.1 21 = .ok (.dup, 1) := by decide +kernel
theorem d_Ho_init_22 : decode y_Ho_init.2.1 22 = .ok (.bipush 12, 2) := by decide +kernel
theorem d_Ho_init_24 : decode y_Ho_init.2.1 24 = .ok (.invokespecial 11, 3) := by decide +kernel
theorem d_Ho_init_27 : decode y_Ho_init.2.1 27 = .ok (.putfield 20, 3) := by decide +kernel
theorem d_Ho_init_30 : decode y_Ho_init.2.1 30 = .ok (.aload_n 0, 1) := by decide +kernel
theorem d_Ho_init_31 : decode y_Ho_init.2.1 31 = .ok (.new 9, 3) := by decide +kernel
theorem d_Ho_init_34 : decode y_Ho_init.2.1 34 = .ok (.dup, 1) := by decide +kernel
theorem d_Ho_init_35 : decode y_Ho_init.2.1 35 = .ok (.iconst 4, 1) := by decide +kernel
theorem d_Ho_init_36 : decode y_Ho_init.2.1 36 = .ok (.invokespecial 11, 3) := by decide +kernel
theorem d_Ho_init_39 : decode y_Ho_init.2.1 39 = .ok (.putfield 23, 3) := by decide +kernel
theorem d_Ho_init_42 : decode y_Ho_init.2.1 42 = .ok (.aload_n 0, 1) := by decide +kernel
theorem d_Ho_init_43 : decode y_Ho_init.2.1 43 = .ok (.new 9, 3) := by decide +kernel
theorem d_Ho_init_46 : decode y_Ho_init.2.1 46 = .ok (.dup, 1) := by decide +kernel
theorem d_Ho_init_47 : decode y_Ho_init.2.1 47 = .ok (.bipush 8, 2) := by decide +kernel
theorem d_Ho_init_49 : decode y_Ho_init.2.1 49 = .ok (.invokespecial 11, 3) := by decide +kernel
theorem d_Ho_init_52 : decode y_Ho_init.2.1 52 = .ok (.putfield 26, 3) := by decide +kernel
theorem d_Ho_init_55 : decode y_Ho_init.2.1 55 = .ok (.aload_n 0, 1) := by decide +kernel
theorem d_Ho_init_56 : decode y_Ho_init.2.1 56 = .ok (.new 9, 3) := by decide +kernel
theorem d_Ho_init_59 : decode y_Ho_init.2.1 59 = .ok (.dup, 1) := by decide +kernel
theorem d_Ho_init_60 : decode y_Ho_init.2.1 60 = .ok (.bipush 60, 2) := by decide +kernel
theorem d_Ho_init_62 : decode y_Ho_init.2.1 62 = .ok (.invokespecial 11, 3) := by decide +kernel
theorem d_Ho_init_65 : decode y_Ho_init.2.1 65 = .ok (.putfield 29, 3) := by decide +kernel
theorem d_Ho_init_68 : decode y_Ho_init.2.1 68 = .ok (.aload_n 0, 1) := by decide +kernel
theorem d_Ho_init_69 : decode y_Ho_init.2.1 69 = .ok (.new 9, 3) := by decide +kernel
theorem d_Ho_init_72 : decode y_Ho_init.2.1 72 = .ok (.dup, 1) := by decide +kernel
theorem d_Ho_init_73 : decode y_Ho_init.2.1 73 = .ok (.bipush 10, 2) := by decide +kernel
theorem d_Ho_init_75 : decode y_Ho_init.2.1 75 = .ok (.invokespecial 11, 3) := by decide +kernel
theorem d_Ho_init_78 : decode y_Ho_init.2.1 78 = .ok (.putfield 32, 3) := by decide +kernel
theorem d_Ho_init_81 : decode y_Ho_init.2.1 81 = .ok (.aload_n 0, 1) := by decide +kernel
theorem d_Ho_init_82 : decode y_Ho_init.2.1 82 = .ok (.new 9, 3) := by decide +kernel
theorem d_Ho_init_85 : decode y_Ho_init.2.1 85 = .ok (.dup, 1) := by decide +kernel
theorem d_Ho_init_86 : decode y_Ho_init.2.1 86 = .ok (.bipush 6, 2) := by decide +kernel
theorem d_Ho_init_88 : decode y_Ho_init.2.1 88 = .ok (.invokespecial 11, 3) := by decide +kernel
theorem d_Ho_init_91 : decode y_Ho_init.2.1 91 = .ok (.putfield 35, 3) := by decide +kernel
theorem d_Ho_init_94 : decode y_Ho_init.2.1 94 = .ok (.aload_n 0, 1) := by decide +kernel
theorem d_Ho_init_95 : decode y_Ho_init.2.1 95 = .ok (.new 9, 3) := by decide +kernel
theorem d_Ho_init_98 : decode y_Ho_init.2.1 98 = .ok (.dup, 1) := by decide +kernel
theorem d_Ho_init_99 : decode y_Ho_init.2.1 99 = .ok (.bipush 10, 2) := by decide +kernel
theorem d_Ho_init_101 : decode y_Ho_init.2.1 101 = .ok (.invokespecial 11, 3) := by decide +kernel
theorem d_Ho_init_104 : decode y_Ho_init.2.1 104 = .ok (.putfield 38, 3) := by decide +kernel
theorem d_Ho_init_107 : decode y_Ho_init.2.1 107 = .ok (.aload_n 0, 1) := by decide +kernel
theorem d_Ho_init_108 : decode y_Ho_init.2.1 108 = .ok (.new 9, 3) := by decide +kernel
theorem d_Ho_init_111 : decode y_Ho_init.2.1 111 = .ok (.dup, 1) := by decide +kernel
theorem d_Ho_init_112 : decode y_Ho_init.2.1 112 = .ok (.bipush 40, 2) := by decide +kernel
theorem d_Ho_init_114 : decode y_Ho_init.2.1 114 = .ok (.invokespecial 11, 3) := by decide +kernel
theorem d_Ho_init_117 : decode y_Ho_init.2.1 117 = .ok (.putfield 41, 3) := by decide +kernel
theorem d_Ho_init_120 : decode y_Ho_init.2.1 120 = .ok (.aload_n 0, 1) := by decide +kernel
theorem d_Ho_init_121 : decode y_Ho_init.2.1 121 = .ok (.new 9, 3) := by decide +kernel
theorem d_Ho_init_124 : decode y_Ho_init.2.1 124 = .ok (.dup, 1) := by decide +kernel
theorem d_Ho_init_125 : decode y_Ho_init.2.1 125 = .ok (.iconst 1, 1) := by decide +kernel
theorem d_Ho_init_126 : decode y_Ho_init.2.1 126 = .ok (.invokespecial 11, 3) := by decide +kernel
theorem d_Ho_init_129 : decode y_Ho_init.2.1 129 = .ok (.putfield 44, 3) := by decide +kernel
theorem d_Ho_init_132 : decode y_Ho_init.2.1 132 = .ok (.aload_n 0, 1) := by decide +kernel
theorem d_Ho_init_133 : decode y_Ho_init.2.1 133 = .ok (.aload_n 1, 1) := by decide +kernel
theorem d_Ho_init_134 : decode y_Ho_init.2.1 134 = .ok (.putfield 47, 3) := by decide +kernel
theorem d_Ho_init_137 : decode y_Ho_init.2.1 137 = .ok (.aload_n 0, 1) := by decide +kernel
theorem d_Ho_init_138 : decode y_Ho_init.2.1 138 = .ok (.getfield 44, 3) := by decide +kernel
theorem d_Ho_init_141 : decode y_Ho_init.2.1 141 = .ok (.sipush 1000, 3) := by decide +kernel
theorem d_Ho_init_144 : decode y_Ho_init.2.1 144 = .ok (.iconst 1, 1) := by decide +kernel
theorem d_Ho_init_145 : decode y_Ho_init.2.1 145 = .ok (.iconst 0, 1) := by decide +kernel
theorem d_Ho_init_146 : decode y_Ho_init.2.1 146 = .ok (.iconst 1, 1) := by decide +kernel
theorem d_Ho_init_147 : decode y_Ho_init.2.1 147 = .ok (.iconst 1, 1) := by decide +kernel
theorem d_Ho_init_148 : decode y_Ho_init.2.1 148 = .ok (.iconst 0, 1) := by decide +kernel
theorem d_Ho_init_149 : decode y_Ho_init.2.1 149 = .ok (.invokevirtual 51, 3) := by decide +kernel
theorem d_Ho_init_152 : decode y_Ho_init.2.1 152 = .ok (.aload_n 0, 1) := by decide +kernel
theorem d_Ho_init_153 : decode y_Ho_init.2.1 153 = .ok (.getfield 44, 3) := by decide +kernel
theorem d_Ho_init_156 : decode y_Ho_init.2.1 156 = .ok (.invokevirtual 55, 3) := by decide +kernel
theorem d_Ho_init_159 : decode y_Ho_init.2.1 159 = .ok (.return_, 1) := by decide +kernel
theorem d_Ho_add_0 : decode y_Ho_add.2.1 0 = .ok (.aload_n 1, 1) := by decide +kernel
theorem d_Ho_add_1 : decode y_Ho_add.2.1 1 = .ok (.invokevirtual 58, 3) := by decide +kernel
theorem d_Ho_add_4 : decode y_Ho_add.2.1 4 = .ok (.ifCond .eq 5, 3) := by decide +kernel
theorem d_Ho_add_7 : decode y_Ho_add.2.1 7 = .ok (.iconst (-1), 1) := by decide +kernel
theorem d_Ho_add_8 : decode y_Ho_add.2.1 8 = .ok (.ireturn, 1) := by decide +kernel
theorem d_Ho_add_9 : decode y_Ho_add.2.1 9 = .ok (.aload_n 1, 1) := by decide +kernel
theorem d_Ho_add_10 : decode y_Ho_add.2.1 10 = .ok (.iload_n 2, 1) := by decide +kernel
theorem d_Ho_add_11 : decode y_Ho_add.2.1 11 = .ok (.iload_n 3, 1) := by decide +kernel
theorem d_Ho_add_12 : decode y_Ho_add.2.1 12 = .ok (.iload 4, 2) := by decide +kernel
theorem d_Ho_add_14 : decode y_Ho_add.2.1 14 = .ok (.iload 5, 2) := by decide +kernel
theorem d_Ho_add_16 : decode y_Ho_add.2.1 16 = .ok (.iload 6, 2) := by decide +kernel
theorem d_Ho_add_18 : decode y_Ho_add.2.1 18 = .ok (.iload 7, 2) := by decide +kernel
theorem d_Ho_add_20 : decode y_Ho_add.2.1 20 = .ok (.invokevirtual 51, 3) := by decide +kernel
theorem d_Ho_add_23 : decode y_Ho_add.2.1 23 = .ok (.aload_n 0, 1) := by decide +kernel
theorem d_Ho_add_24 : decode y_Ho_add.2.1 24 = .ok (.getfield 47, 3) := by decide +kernel
theorem d_Ho_add_27 : decode y_Ho_add.2.1 27 = .ok (.aload_n 1, 1) := by decide +kernel
theorem d_Ho_add_28 : decode y_Ho_add.2.1 28 = .ok (.invokevirtual 62, 3) := by decide +kernel
theorem d_Ho_add_31 : decode y_Ho_add.2.1 31 = .ok (.aload_n 1, 1) := by decide +kernel
theorem d_Ho_add_32 : decode y_Ho_add.2.1 32 = .ok (.invokevirtual 68, 3) := by decide +kernel
theorem d_Ho_add_35 : decode y_Ho_add.2.1 35 = .ok (.iconst 1, 1) := by decide +kernel
theorem d_Ho_add_36 : decode y_Ho_add.2.1 36 = .ok (.isub, 1) := by decide +kernel
theorem d_Ho_add_37 : decode y_Ho_add.2.1 37 = .ok (.ireturn, 1) := by decide +kernel
theorem d_Ho_change_0 : decode y_Ho_change.2.1 0 = .ok (.aload_n 1, 1) := by decide +kernel
theorem d_Ho_change_1 : decode y_Ho_change.2.1 1 = .ok (.iload_n 2, 1) := by decide +kernel
theorem d_Ho_change_2 : decode y_Ho_change.2.1 2 = .ok (.iload_n 3, 1) := by decide +kernel
theorem d_Ho_change_3 : decode y_Ho_change.2.1 3 = .ok (.invokevirtual 72, 3) := by decide +kernel
theorem d_Ho_change_6 : decode y_Ho_change.2.1 6 = .ok (.istore 5, 2) := by decide +kernel
theorem d_Ho_change_8 : decode y_Ho_change.2.1 8 = .ok (.aload_n 0, 1) := by decide +kernel
theorem d_Ho_change_9 : decode y_Ho_change.2.1 9 = .ok (.getfield 47, 3) := by decide +kernel
theorem d_Ho_change_12 : decode y_Ho_change.2.1 12 = .ok (.aload_n 1, 1) := by decide +kernel
theorem d_Ho_change_13 : decode y_Ho_change.2.1 13 = .ok (.iload_n 2, 1) := by decide +kernel
theorem d_Ho_change_14 : decode y_Ho_change.2.1 14 = .ok (.invokevirtual 76, 3) := by decide +kernel
theorem d_Ho_change_17 : decode y_Ho_change.2.1 17 = .ok (.aload_n 1, 1) := by decide +kernel
theorem d_Ho_change_18 : decode y_Ho_change.2.1 18 = .ok (.iload_n 2, 1) := by decide +kernel
theorem d_Ho_change_19 : decode y_Ho_change.2.1 19 = .ok (.iload_n 3, 1) := by decide +kernel
theorem d_Ho_change_20 : decode y_Ho_change.2.1 20 = .ok (.iload 4, 2) := by decide +kernel
theorem d_Ho_change_22 : decode y_Ho_change.2.1 22 = .ok (.invokevirtual 80, 3) := by decide +kernel
theorem d_Ho_change_25 : decode y_Ho_change.2.1 25 = .ok (.iload 5, 2) := by decide +kernel
theorem d_Ho_change_27 : decode y_Ho_change.2.1 27 = .ok (.ireturn, 1) := by decide +kernel
theorem d_Ho_changeGauges_0 : decode y_Ho_changeGauges.2.1 0 = .ok (.aload_n 0, 1) := by decide +kernel
theorem d_Ho_changeGauges_1 : decode y_Ho_changeGauges.2.1 1 = .ok (.getfield 47, 3) := by decide +kernel
theorem d_Ho_changeGauges_4 : decode y_Ho_changeGauges.2.1 4 = .ok (.aload_n 0, 1) := by decide +kernel
theorem d_Ho_changeGauges_5 : decode y_Ho_changeGauges.2.1 5 = .ok (.getfield 44, 3) := by decide +kernel
theorem d_Ho_changeGauges_8 : decode y_Ho_changeGauges.2.1 8 = .ok (.iconst 0, 1) := by decide +kernel
theorem d_Ho_changeGauges_9 : decode y_Ho_changeGauges.2.1 9 = .ok (.invokevirtual 76, 3) := by decide +kernel
theorem d_Ho_changeGauges_12 : decode y_Ho_changeGauges.2.1 12 = .ok (.aload_n 0, 1) := by decide +kernel
theorem d_Ho_changeGauges_13 : decode y_Ho_changeGauges.2.1 13 = .ok (.getfield 44, 3) := by decide +kernel
theorem d_Ho_changeGauges_16 : decode y_Ho_changeGauges.2.1 16 = .ok (.iconst 0, 1) := by decide +kernel
theorem d_Ho_changeGauges_17 : decode y_Ho_changeGauges.2.1 17 = .ok (.iconst 2, 1) := by decide +kernel
theorem d_Ho_changeGauges_18 : decode y_Ho_changeGauges.2.1 18 = .ok (.iload_n 1, 1) := by decide +kernel
theorem d_Ho_changeGauges_19 : decode y_Ho_changeGauges.2.1 19 = .ok (.invokevirtual 80, 3) := by decide +kernel
theorem d_Ho_changeGauges_22 : decode y_Ho_changeGauges.2.1 22 = .ok (.aload_n 0, 1) := by decide +kernel
theorem d_Ho_changeGauges_23 : decode y_Ho_changeGauges.2.1 23 = .ok (.getfield 44, 3) := by decide +kernel
theorem d_Ho_changeGauges_26 : decode y_Ho_changeGauges.2.1 26 = .ok (.iconst 0, 1) := by decide +kernel
theorem d_Ho_changeGauges_27 : decode y_Ho_changeGauges.2.1 27 = .ok (.iconst 3, 1) := by decide +kernel
theorem d_Ho_changeGauges_28 : decode y_Ho_changeGauges.2.1 28 = .ok (.iload_n 2, 1) := by decide +kernel
theorem d_Ho_changeGauges_29 : decode y_Ho_changeGauges.2.1 29 = .ok (.invokevirtual 80, 3) := by decide +kernel
theorem d_Ho_changeGauges_32 : decode y_Ho_changeGauges.2.1 32 = .ok (.aload_n 0, 1) := by decide +kernel
theorem d_Ho_changeGauges_33 : decode y_Ho_changeGauges.2.1 33 = .ok (.getfield 44, 3) := by decide +kernel
theorem d_Ho_changeGauges_36 : decode y_Ho_changeGauges.2.1 36 = .ok (.iconst 0, 1) := by decide +kernel
theorem d_Ho_changeGauges_37 : decode y_Ho_changeGauges.2.1 37 = .ok (.iconst 4, 1) := by decide +kernel
theorem d_Ho_changeGauges_38 : decode y_Ho_changeGauges.2.1 38 = .ok (.iload_n 3, 1) := by decide +kernel
theorem d_Ho_changeGauges_39 : decode y_Ho_changeGauges.2.1 39 = .ok (.invokevirtual 80, 3) := by decide +kernel
theorem d_Ho_changeGauges_42 : decode y_Ho_changeGauges.2.1 42 = .ok (.return_, 1) := by decide +kernel
theorem d_Ho_walkTimes_0 : decode y_Ho_walkTimes.2.1 0 = .ok (.aload_n 0, 1) := by decide +kernel
theorem d_Ho_walkTimes_1 : decode y_Ho_walkTimes.2.1 1 = .ok (.getfield 44, 3) := by decide +kernel
theorem d_Ho_walkTimes_4 : decode y_Ho_walkTimes.2.1 4 = .ok (.iconst 0, 1) := by decide +kernel
theorem d_Ho_walkTimes_5 : decode y_Ho_walkTimes.2.1 5 = .ok (.iconst 1, 1) := by decide +kernel
theorem d_Ho_walkTimes_6 : decode y_Ho_walkTimes.2.1 6 = .ok (.invokevirtual 72, 3) := by decide +kernel
theorem d_Ho_walkTimes_9 : decode y_Ho_walkTimes.2.1 9 = .ok (.ireturn, 1) := by decide +kernel
theorem d_Ho_gives_0 : decode y_Ho_gives.2.1 0 = .ok (.aload_n 0, 1) := by decide +kernel
theorem d_Ho_gives_1 : decode y_Ho_gives.2.1 1 = .ok (.getfield 23, 3) := by decide +kernel
theorem d_Ho_gives_4 : decode y_Ho_gives.2.1 4 = .ok (.iload_n 1, 1) := by decide +kernel
theorem d_Ho_gives_5 : decode y_Ho_gives.2.1 5 = .ok (.invokevirtual 84, 3) := by decide +kernel
theorem d_Ho_gives_8 : decode y_Ho_gives.2.1 8 = .ok (.ifCond .eq 29, 3) := by decide +kernel
theorem d_Ho_gives_11 : decode y_Ho_gives.2.1 11 = .ok (.iload_n 2, 1) := by decide +kernel
theorem d_Ho_gives_12 : decode y_Ho_gives.2.1 12 = .ok (.aload_n 0, 1) := by decide +kernel
theorem d_Ho_gives_13 : decode y_Ho_gives.2.1 13 = .ok (.getfield 23, 3) := by decide +kernel
theorem d_Ho_gives_16 : decode y_Ho_gives.2.1 16 = .ok (.iload_n 1, 1) := by decide +kernel
theorem d_Ho_gives_17 : decode y_Ho_gives.2.1 17 = .ok (.iconst 1, 1) := by decide +kernel
theorem d_Ho_gives_18 : decode y_Ho_gives.2.1 18 = .ok (.invokevirtual 72, 3) := by decide +kernel
theorem d_Ho_gives_21 : decode y_Ho_gives.2.1 21 = .ok (.if_icmp .lt 16, 3) := by decide +kernel
theorem d_Ho_gives_24 : decode y_Ho_gives.2.1 24 = .ok (.iload_n 2, 1) := by decide +kernel
theorem d_Ho_gives_25 : decode y_Ho_gives.2.1 25 = .ok (.aload_n 0, 1) := by decide +kernel
theorem d_Ho_gives_26 : decode y_Ho_gives.2.1 26 = .ok (.getfield 23, 3) := by decide +kernel
theorem d_Ho_gives_29 : decode y_Ho_gives.2.1 29 = .ok (.iload_n 1, 1) := by decide +kernel
theorem d_Ho_gives_30 : decode y_Ho_gives.2.1 30 = .ok (.iconst 2, 1) := by decide +kernel
theorem d_Ho_gives_31 : decode y_Ho_gives.2.1 31 = .ok (.invokevirtual 72, 3) := by decide +kernel
theorem d_Ho_gives_34 : decode y_Ho_gives.2.1 34 = .ok (.if_icmp .lt 5, 3) := by decide +kernel
theorem d_Ho_gives_37 : decode y_Ho_gives.2.1 37 = .ok (.iconst 0, 1) := by decide +kernel
theorem d_Ho_gives_38 : decode y_Ho_gives.2.1 38 = .ok (.ireturn, 1) := by decide +kernel
theorem d_Ho_gives_39 : decode y_Ho_gives.2.1 39 = .ok (.aload_n 0, 1) := by decide +kernel
theorem d_Ho_gives_40 : decode y_Ho_gives.2.1 40 = .ok (.getfield 23, 3) := by decide +kernel
theorem d_Ho_gives_43 : decode y_Ho_gives.2.1 43 = .ok (.iload_n 1, 1) := by decide +kernel
theorem d_Ho_gives_44 : decode y_Ho_gives.2.1 44 = .ok (.iconst 4, 1) := by decide +kernel
theorem d_Ho_gives_45 : decode y_Ho_gives.2.1 45 = .ok (.invokevirtual 72, 3) := by decide +kernel
theorem d_Ho_gives_48 : decode y_Ho_gives.2.1 48 = .ok (.iload_n 2, 1) := by decide +kernel
theorem d_Ho_gives_49 : decode y_Ho_gives.2.1 49 = .ok (.aload_n 0, 1) := by decide +kernel
theorem d_Ho_gives_50 : decode y_Ho_gives.2.1 50 = .ok (.getfield 23, 3) := by decide +kernel
theorem d_Ho_gives_53 : decode y_Ho_gives.2.1 53 = .ok (.iload_n 1, 1) := by decide +kernel
theorem d_Ho_gives_54 : decode y_Ho_gives.2.1 54 = .ok (.iconst 1, 1) := by decide +kernel
theorem d_Ho_gives_55 : decode y_Ho_gives.2.1 55 = .ok (.invokevirtual 72, 3) := by decide +kernel
theorem d_Ho_gives_58 : decode y_Ho_gives.2.1 58 = .ok (.isub, 1) := by decide +kernel
theorem d_Ho_gives_59 : decode y_Ho_gives.2.1 59 = .ok (.imul, 1) := by decide +kernel
theorem d_Ho_gives_60 : decode y_Ho_gives.2.1 60 = .ok (.istore_n 3, 1) := by decide +kernel
theorem d_Ho_gives_61 : decode y_Ho_gives.2.1 61 = .ok (.aload_n 0, 1) := by decide +kernel
theorem d_Ho_gives_62 : decode y_Ho_gives.2.1 62 = .ok (.getfield 23, 3) := by decide +kernel
theorem d_Ho_gives_65 : decode y_Ho_gives.2.1 65 = .ok (.iload_n 1, 1) := by decide +kernel
theorem d_Ho_gives_66 : decode y_Ho_gives.2.1 66 = .ok (.iconst 5, 1) := by decide +kernel
theorem d_Ho_gives_67 : decode y_Ho_gives.2.1 67 = .ok (.invokevirtual 72, 3) := by decide +kernel
theorem d_Ho_gives_70 : decode y_Ho_gives.2.1 70 = .ok (.aload_n 0, 1) := by decide +kernel
theorem d_Ho_gives_71 : decode y_Ho_gives.2.1 71 = .ok (.getfield 23, 3) := by decide +kernel
theorem d_Ho_gives_74 : decode y_Ho_gives.2.1 74 = .ok (.iload_n 1, 1) := by decide +kernel
theorem d_Ho_gives_75 : decode y_Ho_gives.2.1 75 = .ok (.iconst 3, 1) := by decide +kernel
theorem d_Ho_gives_76 : decode y_Ho_gives.2.1 76 = .ok (.invokevirtual 72, 3) := by decide +kernel
theorem d_Ho_gives_79 : decode y_Ho_gives.2.1 79 = .ok (.iload_n 3, 1) := by decide +kernel
theorem d_Ho_gives_80 : decode y_Ho_gives.2.1 80 = .ok (.iadd, 1) := by decide +kernel
theorem d_Ho_gives_81 : decode y_Ho_gives.2.1 81 = .ok (.invokestatic 88, 3) := by decide +kernel
theorem d_Ho_gives_84 : decode y_Ho_gives.2.1 84 = .ok (.ireturn, 1) := by decide +kernel
theorem d_Ho_otherEnd_0 : decode y_Ho_otherEnd.2.1 0 = .ok (.aload_n 0, 1) := by decide +kernel
theorem d_Ho_otherEnd_1 : decode y_Ho_otherEnd.2.1 1 = .ok (.getfield 20, 3) := by decide +kernel
theorem d_Ho_otherEnd_4 : decode y_Ho_otherEnd.2.1 4 = .ok (.iload_n 1, 1) := by decide +kernel
theorem d_Ho_otherEnd_5 : decode y_Ho_otherEnd.2.1 5 = .ok (.iconst 0, 1) := by decide +kernel
theorem d_Ho_otherEnd_6 : decode y_Ho_otherEnd.2.1 6 = .ok (.invokevirtual 72, 3) := by decide +kernel
theorem d_Ho_otherEnd_9 : decode y_Ho_otherEnd.2.1 9 = .ok (.istore_n 3, 1) := by decide +kernel
theorem d_Ho_otherEnd_10 : decode y_Ho_otherEnd.2.1 10 = .ok (.aload_n 0, 1) := by decide +kernel
theorem d_Ho_otherEnd_11 : decode y_Ho_otherEnd.2.1 11 = .ok (.getfield 20, 3) := by decide +kernel
theorem d_Ho_otherEnd_14 : decode y_Ho_otherEnd.2.1 14 = .ok (.iload_n 1, 1) := by decide +kernel
theorem d_Ho_otherEnd_15 : decode y_Ho_otherEnd.2.1 15 = .ok (.iconst 1, 1) := by decide +kernel
theorem d_Ho_otherEnd_16 : decode y_Ho_otherEnd.2.1 16 = .ok (.invokevirtual 72, 3) := by decide +kernel
theorem d_Ho_otherEnd_19 : decode y_Ho_otherEnd.2.1 19 = .ok (.istore 4, 2) := by decide +kernel
theorem d_Ho_otherEnd_21 : decode y_Ho_otherEnd.2.1 21 = .ok (.iload_n 3, 1) := by decide +kernel
theorem d_Ho_otherEnd_22 : decode y_Ho_otherEnd.2.1 22 = .ok (.iload_n 2, 1) := by decide +kernel
theorem d_Ho_otherEnd_23 : decode y_Ho_otherEnd.2.1 23 = .ok (.if_icmp .ne 8, 3) := by decide +kernel
theorem d_Ho_otherEnd_26 : decode y_Ho_otherEnd.2.1 26 = .ok (.iload 4, 2) := by decide +kernel
theorem d_Ho_otherEnd_28 : decode y_Ho_otherEnd.2.1 28 = .ok (.goto 14, 3) := by decide +kernel
theorem d_Ho_otherEnd_31 : decode y_Ho_otherEnd.2.1 31 = .ok (.iload 4, 2) := by decide +kernel
theorem d_Ho_otherEnd_33 : decode y_Ho_otherEnd.2.1 33 = .ok (.iload_n 2, 1) := by decide +kernel
theorem d_Ho_otherEnd_34 : decode y_Ho_otherEnd.2.1 34 = .ok (.if_icmp .ne 7, 3) := by decide +kernel
theorem d_Ho_otherEnd_37 : decode y_Ho_otherEnd.2.1 37 = .ok (.iload_n 3, 1) := by decide +kernel
theorem d_Ho_otherEnd_38 : decode y_Ho_otherEnd.2.1 38 = .ok (.goto 4, 3) := by decide +kernel
theorem d_Ho_otherEnd_41 : decode y_Ho_otherEnd.2.1 41 = .ok (.iconst (-1), 1) := by decide +kernel
theorem d_Ho_otherEnd_42 : decode y_Ho_otherEnd.2.1 42 = .ok (.istore 5, 2) := by decide +kernel
theorem d_Ho_otherEnd_44 : decode y_Ho_otherEnd.2.1 44 = .ok (.aload_n 0, 1) := by decide +kernel
theorem d_Ho_otherEnd_45 : decode y_Ho_otherEnd.2.1 45 = .ok (.getfield 14, 3) := by decide +kernel
theorem d_Ho_otherEnd_48 : decode y_Ho_otherEnd.2.1 48 = .ok (.iload 5, 2) := by decide +kernel
theorem d_Ho_otherEnd_50 : decode y_Ho_otherEnd.2.1 50 = .ok (.invokevirtual 84, 3) := by decide +kernel
theorem d_Ho_otherEnd_53 : decode y_Ho_otherEnd.2.1 53 = .ok (.ifCond .eq 8, 3) := by decide +kernel
theorem d_Ho_otherEnd_56 : decode y_Ho_otherEnd.2.1 56 = .ok (.iload 5, 2) := by decide +kernel
theorem d_Ho_otherEnd_58 : decode y_Ho_otherEnd.2.1 58 = .ok (.goto 4, 3) := by decide +kernel
theorem d_Ho_otherEnd_61 : decode y_Ho_otherEnd.2.1 61 = .ok (.iconst (-1), 1) := by decide +kernel
theorem d_Ho_otherEnd_62 : decode y_Ho_otherEnd.2.1 62 = .ok (.ireturn, 1) := by decide +kernel
theorem d_Ho_allPeople_0 : decode y_Ho_allPeople.2.1 0 = .ok (.iconst 0, 1) := by decide +kernel
theorem d_Ho_allPeople_1 : decode y_Ho_allPeople.2.1 1 = .ok (.istore_n 1, 1) := by decide +kernel
theorem d_Ho_allPeople_2 : decode y_Ho_allPeople.2.1 2 = .ok (.iconst 0, 1) := by decide +kernel
theorem d_Ho_allPeople_3 : decode y_Ho_allPeople.2.1 3 = .ok (.istore_n 2, 1) := by decide +kernel
theorem d_Ho_allPeople_4 : decode y_Ho_allPeople.2.1 4 = .ok (.iload_n 2, 1) := by decide +kernel
theorem d_Ho_allPeople_5 : decode y_Ho_allPeople.2.1 5 = .ok (.aload_n 0, 1) := by decide +kernel
theorem d_Ho_allPeople_6 : decode y_Ho_allPeople.2.1 6 = .ok (.getfield 32, 3) := by decide +kernel
theorem d_Ho_allPeople_9 : decode y_Ho_allPeople.2.1 9 = .ok (.invokevirtual 68, 3) := by decide +kernel
theorem d_Ho_allPeople_12 : decode y_Ho_allPeople.2.1 12 = .ok (.if_icmp .ge 21, 3) := by decide +kernel
theorem d_Ho_allPeople_15 : decode y_Ho_allPeople.2.1 15 = .ok (.iload_n 1, 1) := by decide +kernel
theorem d_Ho_allPeople_16 : decode y_Ho_allPeople.2.1 16 = .ok (.aload_n 0, 1) := by decide +kernel
theorem d_Ho_allPeople_17 : decode y_Ho_allPeople.2.1 17 = .ok (.getfield 32, 3) := by decide +kernel
theorem d_Ho_allPeople_20 : decode y_Ho_allPeople.2.1 20 = .ok (.iload_n 2, 1) := by decide +kernel
theorem d_Ho_allPeople_21 : decode y_Ho_allPeople.2.1 21 = .ok (.iconst 1, 1) := by decide +kernel
theorem d_Ho_allPeople_22 : decode y_Ho_allPeople.2.1 22 = .ok (.invokevirtual 72, 3) := by decide +kernel
theorem d_Ho_allPeople_25 : decode y_Ho_allPeople.2.1 25 = .ok (.iadd, 1) := by decide +kernel
theorem d_Ho_allPeople_26 : decode y_Ho_allPeople.2.1 26 = .ok (.istore_n 1, 1) := by decide +kernel
theorem d_Ho_allPeople_27 : decode y_Ho_allPeople.2.1 27 = .ok (.iinc 2 1, 3) := by decide +kernel
theorem d_Ho_allPeople_30 : decode y_Ho_allPeople.2.1 30 = .ok (.goto (-26), 3) := by decide +kernel
theorem d_Ho_allPeople_33 : decode y_Ho_allPeople.2.1 33 = .ok (.iload_n 1, 1) := by decide +kernel
theorem d_Ho_allPeople_34 : decode y_Ho_allPeople.2.1 34 = .ok (.ireturn, 1) := by decide +kernel
theorem d_Ho_madeDoors_0 : decode y_Ho_madeDoors.2.1 0 = .ok (.iconst 0, 1) := by decide +kernel
theorem d_Ho_madeDoors_1 : decode y_Ho_madeDoors.2.1 1 = .ok (.istore_n 1, 1) := by decide +kernel
theorem d_Ho_madeDoors_2 : decode y_Ho_madeDoors.2.1 2 = .ok (.iconst 0, 1) := by decide +kernel
theorem d_Ho_madeDoors_3 : decode y_Ho_madeDoors.2.1 3 = .ok (.istore_n 2, 1) := by decide +kernel
theorem d_Ho_madeDoors_4 : decode y_Ho_madeDoors.2.1 4 = .ok (.iload_n 2, 1) := by decide +kernel
theorem d_Ho_madeDoors_5 : decode y_Ho_madeDoors.2.1 5 = .ok (.aload_n 0, 1) := by decide +kernel
theorem d_Ho_madeDoors_6 : decode y_Ho_madeDoors.2.1 6 = .ok (.getfield 35, 3) := by decide +kernel
theorem d_Ho_madeDoors_9 : decode y_Ho_madeDoors.2.1 9 = .ok (.invokevirtual 68, 3) := by decide +kernel
theorem d_Ho_madeDoors_12 : decode y_Ho_madeDoors.2.1 12 = .ok (.if_icmp .ge 23, 3) := by decide +kernel
theorem d_Ho_madeDoors_15 : decode y_Ho_madeDoors.2.1 15 = .ok (.iload_n 1, 1) := by decide +kernel
theorem d_Ho_madeDoors_16 : decode y_Ho_madeDoors.2.1 16 = .ok (.aload_n 0, 1) := by decide +kernel
theorem d_Ho_madeDoors_17 : decode y_Ho_madeDoors.2.1 17 = .ok (.getfield 35, 3) := by decide +kernel
theorem d_Ho_madeDoors_20 : decode y_Ho_madeDoors.2.1 20 = .ok (.iload_n 2, 1) := by decide +kernel
theorem d_Ho_madeDoors_21 : decode y_Ho_madeDoors.2.1 21 = .ok (.iconst 3, 1) := by decide +kernel
theorem d_Ho_madeDoors_22 : decode y_Ho_madeDoors.2.1 22 = .ok (.invokevirtual 72, 3) := by decide +kernel
theorem d_Ho_madeDoors_25 : decode y_Ho_madeDoors.2.1 25 = .ok (.iload_n 2, 1) := by decide +kernel
theorem d_Ho_madeDoors_26 : decode y_Ho_madeDoors.2.1 26 = .ok (.ishl, 1) := by decide +kernel
theorem d_Ho_madeDoors_27 : decode y_Ho_madeDoors.2.1 27 = .ok (.ior, 1) := by decide +kernel
theorem d_Ho_madeDoors_28 : decode y_Ho_madeDoors.2.1 28 = .ok (.istore_n 1, 1) := by decide +kernel
theorem d_Ho_madeDoors_29 : decode y_Ho_madeDoors.2.1 29 = .ok (.iinc 2 1, 3) := by decide +kernel
theorem d_Ho_madeDoors_32 : decode y_Ho_madeDoors.2.1 32 = .ok (.goto (-28), 3) := by decide +kernel
theorem d_Ho_madeDoors_35 : decode y_Ho_madeDoors.2.1 35 = .ok (.iload_n 1, 1) := by decide +kernel
theorem d_Ho_madeDoors_36 : decode y_Ho_madeDoors.2.1 36 = .ok (.ireturn, 1) := by decide +kernel
theorem d_Ho_exitWidth_0 : decode y_Ho_exitWidth.2.1 0 = .ok (.aload_n 0, 1) := by decide +kernel
theorem d_Ho_exitWidth_1 : decode y_Ho_exitWidth.2.1 1 = .ok (.getfield 14, 3) := by decide +kernel
theorem d_Ho_exitWidth_4 : decode y_Ho_exitWidth.2.1 4 = .ok (.iload_n 1, 1) := by decide +kernel
theorem d_Ho_exitWidth_5 : decode y_Ho_exitWidth.2.1 5 = .ok (.iconst 1, 1) := by decide +kernel
theorem d_Ho_exitWidth_6 : decode y_Ho_exitWidth.2.1 6 = .ok (.invokevirtual 72, 3) := by decide +kernel
theorem d_Ho_exitWidth_9 : decode y_Ho_exitWidth.2.1 9 = .ok (.istore_n 3, 1) := by decide +kernel
theorem d_Ho_exitWidth_10 : decode y_Ho_exitWidth.2.1 10 = .ok (.iconst 0, 1) := by decide +kernel
theorem d_Ho_exitWidth_11 : decode y_Ho_exitWidth.2.1 11 = .ok (.istore 4, 2) := by decide +kernel
theorem d_Ho_exitWidth_13 : decode y_Ho_exitWidth.2.1 13 = .ok (.iload 4, 2) := by decide +kernel
theorem d_Ho_exitWidth_15 : decode y_Ho_exitWidth.2.1 15 = .ok (.aload_n 0, 1) := by decide +kernel
theorem d_Ho_exitWidth_16 : decode y_Ho_exitWidth.2.1 16 = .ok (.getfield 35, 3) := by decide +kernel
theorem d_Ho_exitWidth_19 : decode y_Ho_exitWidth.2.1 19 = .ok (.invokevirtual 68, 3) := by decide +kernel
theorem d_Ho_exitWidth_22 : decode y_Ho_exitWidth.2.1 22 = .ok (.if_icmp .ge 46, 3) := by decide +kernel
theorem d_Ho_exitWidth_25 : decode y_Ho_exitWidth.2.1 25 = .ok (.iload_n 2, 1) := by decide +kernel
theorem d_Ho_exitWidth_26 : decode y_Ho_exitWidth.2.1 26 = .ok (.iload 4, 2) := by decide +kernel
theorem d_Ho_exitWidth_28 : decode y_Ho_exitWidth.2.1 28 = .ok (.ishr, 1) := by decide +kernel
theorem d_Ho_exitWidth_29 : decode y_Ho_exitWidth.2.1 29 = .ok (.iconst 1, 1) := by decide +kernel
theorem d_Ho_exitWidth_30 : decode y_Ho_exitWidth.2.1 30 = .ok (.iand, 1) := by decide +kernel
theorem d_Ho_exitWidth_31 : decode y_Ho_exitWidth.2.1 31 = .ok (.iconst 1, 1) := by decide +kernel
theorem d_Ho_exitWidth_32 : decode y_Ho_exitWidth.2.1 32 = .ok (.if_icmp .ne 30, 3) := by decide +kernel
theorem d_Ho_exitWidth_35 : decode y_Ho_exitWidth.2.1 35 = .ok (.aload_n 0, 1) := by decide +kernel
theorem d_Ho_exitWidth_36 : decode y_Ho_exitWidth.2.1 36 = .ok (.getfield 35, 3) := by decide +kernel
theorem d_Ho_exitWidth_39 : decode y_Ho_exitWidth.2.1 39 = .ok (.iload 4, 2) := by decide +kernel
theorem d_Ho_exitWidth_41 : decode y_Ho_exitWidth.2.1 41 = .ok (.iconst 0, 1) := by decide +kernel
theorem d_Ho_exitWidth_42 : decode y_Ho_exitWidth.2.1 42 = .ok (.invokevirtual 72, 3) := by decide +kernel
theorem d_Ho_exitWidth_45 : decode y_Ho_exitWidth.2.1 45 = .ok (.iload_n 1, 1) := by decide +kernel
theorem d_Ho_exitWidth_46 : decode y_Ho_exitWidth.2.1 46 = .ok (.if_icmp .ne 16, 3) := by decide +kernel
theorem d_Ho_exitWidth_49 : decode y_Ho_exitWidth.2.1 49 = .ok (.iload_n 3, 1) := by decide +kernel
theorem d_Ho_exitWidth_50 : decode y_Ho_exitWidth.2.1 50 = .ok (.aload_n 0, 1) := by decide +kernel
theorem d_Ho_exitWidth_51 : decode y_Ho_exitWidth.2.1 51 = .ok (.getfield 35, 3) := by decide +kernel
theorem d_Ho_exitWidth_54 : decode y_Ho_exitWidth.2.1 54 = .ok (.iload 4, 2) := by decide +kernel
theorem d_Ho_exitWidth_56 : decode y_Ho_exitWidth.2.1 56 = .ok (.iconst 1, 1) := by decide +kernel
theorem d_Ho_exitWidth_57 : decode y_Ho_exitWidth.2.1 57 = .ok (.invokevirtual 72, 3) := by decide +kernel
theorem d_Ho_exitWidth_60 : decode y_Ho_exitWidth.2.1 60 = .ok (.iadd, 1) := by decide +kernel
theorem d_Ho_exitWidth_61 : decode y_Ho_exitWidth.2.1 61 = .ok (.istore_n 3, 1) := by decide +kernel
theorem d_Ho_exitWidth_62 : decode y_Ho_exitWidth.2.1 62 = .ok (.iinc 4 1, 3) := by decide +kernel
theorem d_Ho_exitWidth_65 : decode y_Ho_exitWidth.2.1 65 = .ok (.goto (-52), 3) := by decide +kernel
theorem d_Ho_exitWidth_68 : decode y_Ho_exitWidth.2.1 68 = .ok (.iload_n 3, 1) := by decide +kernel
theorem d_Ho_exitWidth_69 : decode y_Ho_exitWidth.2.1 69 = .ok (.ireturn, 1) := by decide +kernel
theorem d_Ho_doorCost_0 : decode y_Ho_doorCost.2.1 0 = .ok (.iconst 0, 1) := by decide +kernel
theorem d_Ho_doorCost_1 : decode y_Ho_doorCost.2.1 1 = .ok (.istore_n 2, 1) := by decide +kernel
theorem d_Ho_doorCost_2 : decode y_Ho_doorCost.2.1 2 = .ok (.iconst 0, 1) := by decide +kernel
theorem d_Ho_doorCost_3 : decode y_Ho_doorCost.2.1 3 = .ok (.istore_n 3, 1) := by decide +kernel
theorem d_Ho_doorCost_4 : decode y_Ho_doorCost.2.1 4 = .ok (.iload_n 3, 1) := by decide +kernel
theorem d_Ho_doorCost_5 : decode y_Ho_doorCost.2.1 5 = .ok (.aload_n 0, 1) := by decide +kernel
theorem d_Ho_doorCost_6 : decode y_Ho_doorCost.2.1 6 = .ok (.getfield 35, 3) := by decide +kernel
theorem d_Ho_doorCost_9 : decode y_Ho_doorCost.2.1 9 = .ok (.invokevirtual 68, 3) := by decide +kernel
theorem d_Ho_doorCost_12 : decode y_Ho_doorCost.2.1 12 = .ok (.if_icmp .ge 30, 3) := by decide +kernel
theorem d_Ho_doorCost_15 : decode y_Ho_doorCost.2.1 15 = .ok (.iload_n 1, 1) := by decide +kernel
theorem d_Ho_doorCost_16 : decode y_Ho_doorCost.2.1 16 = .ok (.iload_n 3, 1) := by decide +kernel
theorem d_Ho_doorCost_17 : decode y_Ho_doorCost.2.1 17 = .ok (.ishr, 1) := by decide +kernel
theorem d_Ho_doorCost_18 : decode y_Ho_doorCost.2.1 18 = .ok (.iconst 1, 1) := by decide +kernel
theorem d_Ho_doorCost_19 : decode y_Ho_doorCost.2.1 19 = .ok (.iand, 1) := by decide +kernel
theorem d_Ho_doorCost_20 : decode y_Ho_doorCost.2.1 20 = .ok (.iconst 1, 1) := by decide +kernel
theorem d_Ho_doorCost_21 : decode y_Ho_doorCost.2.1 21 = .ok (.if_icmp .ne 15, 3) := by decide +kernel
theorem d_Ho_doorCost_24 : decode y_Ho_doorCost.2.1 24 = .ok (.iload_n 2, 1) := by decide +kernel
theorem d_Ho_doorCost_25 : decode y_Ho_doorCost.2.1 25 = .ok (.aload_n 0, 1) := by decide +kernel
theorem d_Ho_doorCost_26 : decode y_Ho_doorCost.2.1 26 = .ok (.getfield 35, 3) := by decide +kernel
theorem d_Ho_doorCost_29 : decode y_Ho_doorCost.2.1 29 = .ok (.iload_n 3, 1) := by decide +kernel
theorem d_Ho_doorCost_30 : decode y_Ho_doorCost.2.1 30 = .ok (.iconst 2, 1) := by decide +kernel
theorem d_Ho_doorCost_31 : decode y_Ho_doorCost.2.1 31 = .ok (.invokevirtual 72, 3) := by decide +kernel
theorem d_Ho_doorCost_34 : decode y_Ho_doorCost.2.1 34 = .ok (.iadd, 1) := by decide +kernel
theorem d_Ho_doorCost_35 : decode y_Ho_doorCost.2.1 35 = .ok (.istore_n 2, 1) := by decide +kernel
theorem d_Ho_doorCost_36 : decode y_Ho_doorCost.2.1 36 = .ok (.iinc 3 1, 3) := by decide +kernel
theorem d_Ho_doorCost_39 : decode y_Ho_doorCost.2.1 39 = .ok (.goto (-35), 3) := by decide +kernel
theorem d_Ho_doorCost_42 : decode y_Ho_doorCost.2.1 42 = .ok (.iload_n 2, 1) := by decide +kernel
theorem d_Ho_doorCost_43 : decode y_Ho_doorCost.2.1 43 = .ok (.ireturn, 1) := by decide +kernel
theorem d_Ne_init_0 : decode y_Ne_init.2.1 0 = .ok (.aload_n 0, 1) := by decide +kernel
theorem d_Ne_init_1 : decode y_Ne_init.2.1 1 = .ok (.invokespecial 5, 3) := by decide +kernel
theorem d_Ne_init_4 : decode y_Ne_init.2.1 4 = .ok (.aload_n 0, 1) := by decide +kernel
theorem d_Ne_init_5 : decode y_Ne_init.2.1 5 = .ok (.sipush 338, 3) := by decide +kernel
theorem d_Ne_init_8 : decode y_Ne_init.2.1 8 = .ok (.newarray .int, 2) := by decide +kernel
theorem d_Ne_init_10 : decode y_Ne_init.2.1 10 = .ok (.putfield 11, 3) := by decide +kernel
theorem d_Ne_init_13 : decode y_Ne_init.2.1 13 = .ok (.aload_n 0, 1) := by decide +kernel
theorem d_Ne_init_14 : decode y_Ne_init.2.1 14 = .ok (.sipush 338, 3) := by decide +kernel
theorem d_Ne_init_17 : decode y_Ne_init.2.1 17 = .ok (.newarray .int, 2) := by decide +kernel
theorem d_Ne_init_19 : decode y_Ne_init.2.1 19 = .ok (.putfield 15, 3) := by decide +kernel
theorem d_Ne_init_22 : decode y_Ne_init.2.1 22 = .ok (.aload_n 0, 1) := by decide +kernel
theorem d_Ne_init_23 : decode y_Ne_init.2.1 23 = .ok (.sipush 338, 3) := by decide +kernel
theorem d_Ne_init_26 : decode y_Ne_init.2.1 26 = .ok (.newarray .int, 2) := by decide +kernel
theorem d_Ne_init_28 : decode y_Ne_init.2.1 28 = .ok (.putfield 18, 3) := by decide +kernel
theorem d_Ne_init_31 : decode y_Ne_init.2.1 31 = .ok (.aload_n 0, 1) := by decide +kernel
theorem d_Ne_init_32 : decode y_Ne_init.2.1 32 = .ok (.sipush 338, 3) := by decide +kernel
theorem d_Ne_init_35 : decode y_Ne_init.2.1 35 = .ok (.newarray .boolean, 2) := by decide +kernel
theorem d_Ne_init_37 : decode y_Ne_init.2.1 37 = .ok (.putfield 21, 3) := by decide +kernel
theorem d_Ne_init_40 : decode y_Ne_init.2.1 40 = .ok (.aload_n 0, 1) := by decide +kernel
theorem d_Ne_init_41 : decode y_Ne_init.2.1 41 = .ok (.sipush 2048, 3) := by decide +kernel
theorem d_Ne_init_44 : decode y_Ne_init.2.1 44 = .ok (.newarray .int, 2) := by decide +kernel
theorem d_Ne_init_46 : decode y_Ne_init.2.1 46 = .ok (.putfield 25, 3) := by decide +kernel
theorem d_Ne_init_49 : decode y_Ne_init.2.1 49 = .ok (.aload_n 0, 1) := by decide +kernel
theorem d_Ne_init_50 : decode y_Ne_init.2.1 50 = .ok (.sipush 2048, 3) := by decide +kernel
theorem d_Ne_init_53 : decode y_Ne_init.2.1 53 = .ok (.newarray .int, 2) := by decide +kernel
theorem d_Ne_init_55 : decode y_Ne_init.2.1 55 = .ok (.putfield 28, 3) := by decide +kernel
theorem d_Ne_init_58 : decode y_Ne_init.2.1 58 = .ok (.aload_n 0, 1) := by decide +kernel
theorem d_Ne_init_59 : decode y_Ne_init.2.1 59 = .ok (.sipush 2048, 3) := by decide +kernel
theorem d_Ne_init_62 : decode y_Ne_init.2.1 62 = .ok (.newarray .int, 2) := by decide +kernel
theorem d_Ne_init_64 : decode y_Ne_init.2.1 64 = .ok (.putfield 31, 3) := by decide +kernel
theorem d_Ne_init_67 : decode y_Ne_init.2.1 67 = .ok (.return_, 1) := by decide +kernel
theorem d_Ne_clear_0 : decode y_Ne_clear.2.1 0 = .ok (.aload_n 0, 1) := by decide +kernel
theorem d_Ne_clear_1 : decode y_Ne_clear.2.1 1 = .ok (.iconst 0, 1) := by decide +kernel
theorem d_Ne_clear_2 : decode y_Ne_clear.2.1 2 = .ok (.putfield 34, 3) := by decide +kernel
theorem d_Ne_clear_5 : decode y_Ne_clear.2.1 5 = .ok (.iconst 0, 1) := by decide +kernel
theorem d_Ne_clear_6 : decode y_Ne_clear.2.1 6 = .ok (.istore_n 1, 1) := by decide +kernel
theorem d_Ne_clear_7 : decode y_Ne_clear.2.1 7 = .ok (.iload_n 1, 1) := by decide +kernel
theorem d_Ne_clear_8 : decode y_Ne_clear.2.1 8 = .ok (.sipush 338, 3) := by decide +kernel
theorem d_Ne_clear_11 : decode y_Ne_clear.2.1 11 = .ok (.if_icmp .ge 16, 3) := by decide +kernel
theorem d_Ne_clear_14 : decode y_Ne_clear.2.1 14 = .ok (.aload_n 0, 1) := by decide +kernel
theorem d_Ne_clear_15 : decode y_Ne_clear.2.1 15 = .ok (.getfield 11, 3) := by decide +kernel
theorem d_Ne_clear_18 : decode y_Ne_clear.2.1 18 = .ok (.iload_n 1, 1) := by decide +kernel
theorem d_Ne_clear_19 : decode y_Ne_clear.2.1 19 = .ok (.iconst (-1), 1) := by decide +kernel
theorem d_Ne_clear_20 : decode y_Ne_clear.2.1 20 = .ok (.iastore, 1) := by decide +kernel
theorem d_Ne_clear_21 : decode y_Ne_clear.2.1 21 = .ok (.iinc 1 1, 3) := by decide +kernel
theorem d_Ne_clear_24 : decode y_Ne_clear.2.1 24 = .ok (.goto (-17), 3) := by decide +kernel
theorem d_Ne_clear_27 : decode y_Ne_clear.2.1 27 = .ok (.return_, 1) := by decide +kernel
theorem d_Ne_join_0 : decode y_Ne_join.2.1 0 = .ok (.iload_n 1, 1) := by decide +kernel
theorem d_Ne_join_1 : decode y_Ne_join.2.1 1 = .ok (.ifCond .lt 25, 3) := by decide +kernel
theorem d_Ne_join_4 : decode y_Ne_join.2.1 4 = .ok (.iload_n 1, 1) := by decide +kernel
theorem d_Ne_join_5 : decode y_Ne_join.2.1 5 = .ok (.sipush 338, 3) := by decide +kernel
theorem d_Ne_join_8 : decode y_Ne_join.2.1 8 = .ok (.if_icmp .ge 18, 3) := by decide +kernel
theorem d_Ne_join_11 : decode y_Ne_join.2.1 11 = .ok (.iload_n 2, 1) := by decide +kernel
theorem d_Ne_join_12 : decode y_Ne_join.2.1 12 = .ok (.ifCond .lt 14, 3) := by decide +kernel
theorem d_Ne_join_15 : decode y_Ne_join.2.1 15 = .ok (.iload_n 2, 1) := by decide +kernel
theorem d_Ne_join_16 : decode y_Ne_join.2.1 16 = .ok (.sipush 338, 3) := by decide +kernel
theorem d_Ne_join_19 : decode y_Ne_join.2.1 19 = .ok (.if_icmp .ge 7, 3) := by decide +kernel
theorem d_Ne_join_22 : decode y_Ne_join.2.1 22 = .ok (.iconst 1, 1) := by decide +kernel
theorem d_Ne_join_23 : decode y_Ne_join.2.1 23 = .ok (.goto 4, 3) := by decide +kernel
theorem d_Ne_join_26 : decode y_Ne_join.2.1 26 = .ok (.iconst 0, 1) := by decide +kernel
theorem d_Ne_join_27 : decode y_Ne_join.2.1 27 = .ok (.istore 4, 2) := by decide +kernel
theorem d_Ne_join_29 : decode y_Ne_join.2.1 29 = .ok (.iload 4, 2) := by decide +kernel
theorem d_Ne_join_31 : decode y_Ne_join.2.1 31 = .ok (.ifCond .eq 33, 3) := by decide +kernel
theorem d_Ne_join_34 : decode y_Ne_join.2.1 34 = .ok (.iload_n 3, 1) := by decide +kernel
theorem d_Ne_join_35 : decode y_Ne_join.2.1 35 = .ok (.ifCond .le 29, 3) := by decide +kernel
theorem d_Ne_join_38 : decode y_Ne_join.2.1 38 = .ok (.aload_n 0, 1) := by decide +kernel
theorem d_Ne_join_39 : decode y_Ne_join.2.1 39 = .ok (.getfield 34, 3) := by decide +kernel
theorem d_Ne_join_42 : decode y_Ne_join.2.1 42 = .ok (.iconst 2, 1) := by decide +kernel
theorem d_Ne_join_43 : decode y_Ne_join.2.1 43 = .ok (.iadd, 1) := by decide +kernel
theorem d_Ne_join_44 : decode y_Ne_join.2.1 44 = .ok (.sipush 2048, 3) := by decide +kernel
theorem d_Ne_join_47 : decode y_Ne_join.2.1 47 = .ok (.if_icmp .gt 17, 3) := by decide +kernel
theorem d_Ne_join_50 : decode y_Ne_join.2.1 50 = .ok (.aload_n 0, 1) := by decide +kernel
theorem d_Ne_join_51 : decode y_Ne_join.2.1 51 = .ok (.iload_n 1, 1) := by decide +kernel
theorem d_Ne_join_52 : decode y_Ne_join.2.1 52 = .ok (.iload_n 2, 1) := by decide +kernel
theorem d_Ne_join_53 : decode y_Ne_join.2.1 53 = .ok (.iload_n 3, 1) := by decide +kernel
theorem d_Ne_join_54 : decode y_Ne_join.2.1 54 = .ok (.invokevirtual 38, 3) := by decide +kernel
theorem d_Ne_join_57 : decode y_Ne_join.2.1 57 = .ok (.aload_n 0, 1) := by decide +kernel
theorem d_Ne_join_58 : decode y_Ne_join.2.1 58 = .ok (.iload_n 2, 1) := by decide +kernel
theorem d_Ne_join_59 : decode y_Ne_join.2.1 59 = .ok (.iload_n 1, 1) := by decide +kernel
theorem d_Ne_join_60 : decode y_Ne_join.2.1 60 = .ok (.iconst 0, 1) := by decide +kernel
theorem d_Ne_join_61 : decode y_Ne_join.2.1 61 = .ok (.invokevirtual 38, 3) := by decide +kernel
theorem d_Ne_join_64 : decode y_Ne_join.2.1 64 = .ok (.return_, 1) := by decide +kernel
theorem d_Ne_most_0 : decode y_Ne_most.2.1 0 = .ok (.iconst 0, 1) := by decide +kernel
theorem d_Ne_most_1 : decode y_Ne_most.2.1 1 = .ok (.istore_n 1, 1) := by decide +kernel
theorem d_Ne_most_2 : decode y_Ne_most.2.1 2 = .ok (.iconst 0, 1) := by decide +kernel
theorem d_Ne_most_3 : decode y_Ne_most.2.1 3 = .ok (.istore_n 2, 1) := by decide +kernel
theorem d_Ne_most_4 : decode y_Ne_most.2.1 4 = .ok (.iload_n 2, 1) := by decide +kernel
theorem d_Ne_most_5 : decode y_Ne_most.2.1 5 = .ok (.ldc 42, 2) := by decide +kernel
theorem d_Ne_most_7 : decode y_Ne_most.2.1 7 = .ok (.if_icmp .ge 25, 3) := by decide +kernel
theorem d_Ne_most_10 : decode y_Ne_most.2.1 10 = .ok (.aload_n 0, 1) := by decide +kernel
theorem d_Ne_most_11 : decode y_Ne_most.2.1 11 = .ok (.invokevirtual 43, 3) := by decide +kernel
theorem d_Ne_most_14 : decode y_Ne_most.2.1 14 = .ok (.istore_n 3, 1) := by decide +kernel
theorem d_Ne_most_15 : decode y_Ne_most.2.1 15 = .ok (.iload_n 1, 1) := by decide +kernel
theorem d_Ne_most_16 : decode y_Ne_most.2.1 16 = .ok (.iload_n 3, 1) := by decide +kernel
theorem d_Ne_most_17 : decode y_Ne_most.2.1 17 = .ok (.iadd, 1) := by decide +kernel
theorem d_Ne_most_18 : decode y_Ne_most.2.1 18 = .ok (.istore_n 1, 1) := by decide +kernel
theorem d_Ne_most_19 : decode y_Ne_most.2.1 19 = .ok (.iload_n 3, 1) := by decide +kernel
theorem d_Ne_most_20 : decode y_Ne_most.2.1 20 = .ok (.ifCond .ne 6, 3) := by decide +kernel
theorem d_Ne_most_23 : decode y_Ne_most.2.1 23 = .ok (.goto 9, 3) := by decide +kernel
theorem d_Ne_most_26 : decode y_Ne_most.2.1 26 = .ok (.iinc 2 1, 3) := by decide +kernel
theorem d_Ne_most_29 : decode y_Ne_most.2.1 29 = .ok (.goto (-25), 3) := by decide +kernel
theorem d_Ne_most_32 : decode y_Ne_most.2.1 32 = .ok (.iload_n 1, 1) := by decide +kernel
theorem d_Ne_most_33 : decode y_Ne_most.2.1 33 = .ok (.ireturn, 1) := by decide +kernel
theorem d_Ne_isReached_0 : decode y_Ne_isReached.2.1 0 = .ok (.iload_n 1, 1) := by decide +kernel
theorem d_Ne_isReached_1 : decode y_Ne_isReached.2.1 1 = .ok (.ifCond .lt 23, 3) := by decide +kernel
theorem d_Ne_isReached_4 : decode y_Ne_isReached.2.1 4 = .ok (.iload_n 1, 1) := by decide +kernel
theorem d_Ne_isReached_5 : decode y_Ne_isReached.2.1 5 = .ok (.sipush 338, 3) := by decide +kernel
theorem d_Ne_isReached_8 : decode y_Ne_isReached.2.1 8 = .ok (.if_icmp .ge 16, 3) := by decide +kernel
theorem d_Ne_isReached_11 : decode y_Ne_isReached.2.1 11 = .ok (.aload_n 0, 1) := by decide +kernel
theorem d_Ne_isReached_12 : decode y_Ne_isReached.2.1 12 = .ok (.getfield 21, 3) := by decide +kernel
theorem d_Ne_isReached_15 : decode y_Ne_isReached.2.1 15 = .ok (.iload_n 1, 1) := by decide +kernel
theorem d_Ne_isReached_16 : decode y_Ne_isReached.2.1 16 = .ok (.baload, 1) := by decide +kernel
theorem d_Ne_isReached_17 : decode y_Ne_isReached.2.1 17 = .ok (.ifCond .eq 7, 3) := by decide +kernel
theorem d_Ne_isReached_20 : decode y_Ne_isReached.2.1 20 = .ok (.iconst 1, 1) := by decide +kernel
theorem d_Ne_isReached_21 : decode y_Ne_isReached.2.1 21 = .ok (.goto 4, 3) := by decide +kernel
theorem d_Ne_isReached_24 : decode y_Ne_isReached.2.1 24 = .ok (.iconst 0, 1) := by decide +kernel
theorem d_Ne_isReached_25 : decode y_Ne_isReached.2.1 25 = .ok (.ireturn, 1) := by decide +kernel
theorem d_Ne_addArc_0 : decode y_Ne_addArc.2.1 0 = .ok (.aload_n 0, 1) := by decide +kernel
theorem d_Ne_addArc_1 : decode y_Ne_addArc.2.1 1 = .ok (.getfield 28, 3) := by decide +kernel
theorem d_Ne_addArc_4 : decode y_Ne_addArc.2.1 4 = .ok (.aload_n 0, 1) := by decide +kernel
theorem d_Ne_addArc_5 : decode y_Ne_addArc.2.1 5 = .ok (.getfield 34, 3) := by decide +kernel
theorem d_Ne_addArc_8 : decode y_Ne_addArc.2.1 8 = .ok (.iload_n 2, 1) := by decide +kernel
theorem d_Ne_addArc_9 : decode y_Ne_addArc.2.1 9 = .ok (.iastore, 1) := by decide +kernel
theorem d_Ne_addArc_10 : decode y_Ne_addArc.2.1 10 = .ok (.aload_n 0, 1) := by decide +kernel
theorem d_Ne_addArc_11 : decode y_Ne_addArc.2.1 11 = .ok (.getfield 31, 3) := by decide +kernel
theorem d_Ne_addArc_14 : decode y_Ne_addArc.2.1 14 = .ok (.aload_n 0, 1) := by decide +kernel
theorem d_Ne_addArc_15 : decode y_Ne_addArc.2.1 15 = .ok (.getfield 34, 3) := by decide +kernel
theorem d_Ne_addArc_18 : decode y_Ne_addArc.2.1 18 = .ok (.iload_n 3, 1) := by decide +kernel
theorem d_Ne_addArc_19 : decode y_Ne_addArc.2.1 19 = .ok (.iastore, 1) := by decide +kernel
theorem d_Ne_addArc_20 : decode y_Ne_addArc.2.1 20 = .ok (.aload_n 0, 1) := by decide +kernel
theorem d_Ne_addArc_21 : decode y_Ne_addArc.2.1 21 = .ok (.getfield 25, 3) := by decide +kernel
theorem d_Ne_addArc_24 : decode y_Ne_addArc.2.1 24 = .ok (.aload_n 0, 1) := by decide +kernel
theorem d_Ne_addArc_25 : decode y_Ne_addArc.2.1 25 = .ok (.getfield 34, 3) := by decide +kernel
theorem d_Ne_addArc_28 : decode y_Ne_addArc.2.1 28 = .ok (.aload_n 0, 1) := by decide +kernel
theorem d_Ne_addArc_29 : decode y_Ne_addArc.2.1 29 = .ok (.getfield 11, 3) := by decide +kernel
theorem d_Ne_addArc_32 : decode y_Ne_addArc.2.1 32 = .ok (.iload_n 1, 1) := by decide +kernel
theorem d_Ne_addArc_33 : decode y_Ne_addArc.2.1 33 = .ok (.iaload, 1) := by decide +kernel
theorem d_Ne_addArc_34 : decode y_Ne_addArc.2.1 34 = .ok (.iastore, 1) := by decide +kernel
theorem d_Ne_addArc_35 : decode y_Ne_addArc.2.1 35 = .ok (.aload_n 0, 1) := by decide +kernel
theorem d_Ne_addArc_36 : decode y_Ne_addArc.2.1 36 = .ok (.getfield 11, 3) := by decide +kernel
theorem d_Ne_addArc_39 : decode y_Ne_addArc.2.1 39 = .ok (.iload_n 1, 1) := by decide +kernel
theorem d_Ne_addArc_40 : decode y_Ne_addArc.2.1 40 = .ok (.aload_n 0, 1) := by decide +kernel
theorem d_Ne_addArc_41 : decode y_Ne_addArc.2.1 41 = .ok (.getfield 34, 3) := by decide +kernel
theorem d_Ne_addArc_44 : decode y_Ne_addArc.2.1 44 = .ok (.iastore, 1) := by decide +kernel
theorem d_Ne_addArc_45 : decode y_Ne_addArc.2.1 45 = .ok (.aload_n 0, 1) := by decide +kernel
theorem d_Ne_addArc_46 : decode y_Ne_addArc.2.1 46 = .ok (.dup, 1) := by decide +kernel
theorem d_Ne_addArc_47 : decode y_Ne_addArc.2.1 47 = .ok (.getfield 34, 3) := by decide +kernel
theorem d_Ne_addArc_50 : decode y_Ne_addArc.2.1 50 = .ok (.iconst 1, 1) := by decide +kernel
theorem d_Ne_addArc_51 : decode y_Ne_addArc.2.1 51 = .ok (.iadd, 1) := by decide +kernel
theorem d_Ne_addArc_52 : decode y_Ne_addArc.2.1 52 = .ok (.putfield 34, 3) := by decide +kernel
theorem d_Ne_addArc_55 : decode y_Ne_addArc.2.1 55 = .ok (.return_, 1) := by decide +kernel
theorem d_Ne_searchRound_0 : decode y_Ne_searchRound.2.1 0 = .ok (.iconst 0, 1) := by decide +kernel
theorem d_Ne_searchRound_1 : decode y_Ne_searchRound.2.1 1 = .ok (.istore_n 1, 1) := by decide +kernel
theorem d_Ne_searchRound_2 : decode y_Ne_searchRound.2.1 2 = .ok (.iload_n 1, 1) := by decide +kernel
theorem d_Ne_searchRound_3 : decode y_Ne_searchRound.2.1 3 = .ok (.sipush 338, 3) := by decide +kernel
theorem d_Ne_searchRound_6 : decode y_Ne_searchRound.2.1 6 = .ok (.if_icmp .ge 28, 3) := by decide +kernel
theorem d_Ne_searchRound_9 : decode y_Ne_searchRound.2.1 9 = .ok (.aload_n 0, 1) := by decide +kernel
theorem d_Ne_searchRound_10 : decode y_Ne_searchRound.2.1 10 = .ok (.getfield 21, 3) := by decide +kernel
theorem d_Ne_searchRound_13 : decode y_Ne_searchRound.2.1 13 = .ok (.iload_n 1, 1) := by decide +kernel
theorem d_Ne_searchRound_14 : decode y_Ne_searchRound.2.1 14 = .ok (.iconst 0, 1) := by decide +kernel
theorem d_Ne_searchRound_15 : decode y_Ne_searchRound.2.1 15 = .ok (.bastore, 1) := by decide +kernel
theorem d_Ne_searchRound_16 : decode y_Ne_searchRound.2.1 16 = .ok (.aload_n 0, 1) := by decide +kernel
theorem d_Ne_searchRound_17 : decode y_Ne_searchRound.2.1 17 = .ok (.getfield 15, 3) := by decide +kernel
theorem d_Ne_searchRound_20 : decode y_Ne_searchRound.2.1 20 = .ok (.iload_n 1, 1) := by decide +kernel
theorem d_Ne_searchRound_21 : decode y_Ne_searchRound.2.1 21 = .ok (.aload_n 0, 1) := by decide +kernel
theorem d_Ne_searchRound_22 : decode y_Ne_searchRound.2.1 22 = .ok (.getfield 11, 3) := by decide +kernel
theorem d_Ne_searchRound_25 : decode y_Ne_searchRound.2.1 25 = .ok (.iload_n 1, 1) := by decide +kernel
theorem d_Ne_searchRound_26 : decode y_Ne_searchRound.2.1 26 = .ok (.iaload, 1) := by decide +kernel
theorem d_Ne_searchRound_27 : decode y_Ne_searchRound.2.1 27 = .ok (.iastore, 1) := by decide +kernel
theorem d_Ne_searchRound_28 : decode y_Ne_searchRound.2.1 28 = .ok (.iinc 1 1, 3) := by decide +kernel
theorem d_Ne_searchRound_31 : decode y_Ne_searchRound.2.1 31 = .ok (.goto (-29), 3) := by decide +kernel
theorem d_Ne_searchRound_34 : decode y_Ne_searchRound.2.1 34 = .ok (.aload_n 0, 1) := by decide +kernel
theorem d_Ne_searchRound_35 : decode y_Ne_searchRound.2.1 35 = .ok (.getfield 21, 3) := by decide +kernel
theorem d_Ne_searchRound_38 : decode y_Ne_searchRound.2.1 38 = .ok (.sipush 336, 3) := by decide +kernel
theorem d_Ne_searchRound_41 : decode y_Ne_searchRound.2.1 41 = .ok (.iconst 1, 1) := by decide +kernel
theorem d_Ne_searchRound_42 : decode y_Ne_searchRound.2.1 42 = .ok (.bastore, 1) := by decide +kernel
theorem d_Ne_searchRound_43 : decode y_Ne_searchRound.2.1 43 = .ok (.iconst 0, 1) := by decide +kernel
theorem d_Ne_searchRound_44 : decode y_Ne_searchRound.2.1 44 = .ok (.istore_n 1, 1) := by decide +kernel
theorem d_Ne_searchRound_45 : decode y_Ne_searchRound.2.1 45 = .ok (.iconst 0, 1) := by decide +kernel
theorem d_Ne_searchRound_46 : decode y_Ne_searchRound.2.1 46 = .ok (.istore_n 2, 1) := by decide +kernel
theorem d_Ne_searchRound_47 : decode y_Ne_searchRound.2.1 47 = .ok (.sipush 336, 3) := by decide +kernel
theorem d_Ne_searchRound_50 : decode y_Ne_searchRound.2.1 50 = .ok (.istore_n 3, 1) := by decide +kernel
theorem d_Ne_searchRound_51 : decode y_Ne_searchRound.2.1 51 = .ok (.iconst 0, 1) := by decide +kernel
theorem d_Ne_searchRound_52 : decode y_Ne_searchRound.2.1 52 = .ok (.istore 4, 2) := by decide +kernel
theorem d_Ne_searchRound_54 : decode y_Ne_searchRound.2.1 54 = .ok (.iload 4, 2) := by decide +kernel
theorem d_Ne_searchRound_56 : decode y_Ne_searchRound.2.1 56 = .ok (.ldc 42, 2) := by decide +kernel
theorem d_Ne_searchRound_58 : decode y_Ne_searchRound.2.1 58 = .ok (.if_icmp .ge 139, 3) := by decide +kernel
theorem d_Ne_searchRound_61 : decode y_Ne_searchRound.2.1 61 = .ok (.iload_n 2, 1) := by decide +kernel
theorem d_Ne_searchRound_62 : decode y_Ne_searchRound.2.1 62 = .ok (.sipush 338, 3) := by decide +kernel
theorem d_Ne_searchRound_65 : decode y_Ne_searchRound.2.1 65 = .ok (.if_icmp .ge 132, 3) := by decide +kernel
theorem d_Ne_searchRound_68 : decode y_Ne_searchRound.2.1 68 = .ok (.aload_n 0, 1) := by decide +kernel
theorem d_Ne_searchRound_69 : decode y_Ne_searchRound.2.1 69 = .ok (.iload_n 3, 1) := by decide +kernel
theorem d_Ne_searchRound_70 : decode y_Ne_searchRound.2.1 70 = .ok (.invokevirtual 47, 3) := by decide +kernel
theorem d_Ne_searchRound_73 : decode y_Ne_searchRound.2.1 73 = .ok (.istore 5, 2) := by decide +kernel
theorem d_Ne_searchRound_75 : decode y_Ne_searchRound.2.1 75 = .ok (.iload 5, 2) := by decide +kernel
theorem d_Ne_searchRound_77 : decode y_Ne_searchRound.2.1 77 = .ok (.iconst (-1), 1) := by decide +kernel
theorem d_Ne_searchRound_78 : decode y_Ne_searchRound.2.1 78 = .ok (.if_icmp .ne 10, 3) := by decide +kernel
theorem d_Ne_searchRound_81 : decode y_Ne_searchRound.2.1 81 = .ok (.iload_n 2, 1) := by decide +kernel
theorem d_Ne_searchRound_82 : decode y_Ne_searchRound.2.1 82 = .ok (.ifCond .ne 6, 3) := by decide +kernel
theorem d_Ne_searchRound_85 : decode y_Ne_searchRound.2.1 85 = .ok (.goto 112, 3) := by decide +kernel
theorem d_Ne_searchRound_88 : decode y_Ne_searchRound.2.1 88 = .ok (.iload 5, 2) := by decide +kernel
theorem d_Ne_searchRound_90 : decode y_Ne_searchRound.2.1 90 = .ok (.iconst (-1), 1) := by decide +kernel
theorem d_Ne_searchRound_91 : decode y_Ne_searchRound.2.1 91 = .ok (.if_icmp .ne 23, 3) := by decide +kernel
theorem d_Ne_searchRound_94 : decode y_Ne_searchRound.2.1 94 = .ok (.iinc 2 (-1), 3) := by decide +kernel
theorem d_Ne_searchRound_97 : decode y_Ne_searchRound.2.1 97 = .ok (.aload_n 0, 1) := by decide +kernel
theorem d_Ne_searchRound_98 : decode y_Ne_searchRound.2.1 98 = .ok (.getfield 28, 3) := by decide +kernel
theorem d_Ne_searchRound_101 : decode y_Ne_searchRound.2.1 101 = .ok (.aload_n 0, 1) := by decide +kernel
theorem d_Ne_searchRound_102 : decode y_Ne_searchRound.2.1 102 = .ok (.getfield 18, 3) := by decide +kernel
theorem d_Ne_searchRound_105 : decode y_Ne_searchRound.2.1 105 = .ok (.iload_n 2, 1) := by decide +kernel
theorem d_Ne_searchRound_106 : decode y_Ne_searchRound.2.1 106 = .ok (.iaload, 1) := by decide +kernel
theorem d_Ne_searchRound_107 : decode y_Ne_searchRound.2.1 107 = .ok (.iconst 1, 1) := by decide +kernel
theorem d_Ne_searchRound_108 : decode y_Ne_searchRound.2.1 108 = .ok (.ixor, 1) := by decide +kernel
theorem d_Ne_searchRound_109 : decode y_Ne_searchRound.2.1 109 = .ok (.iaload, 1) := by decide +kernel
theorem d_Ne_searchRound_110 : decode y_Ne_searchRound.2.1 110 = .ok (.istore_n 3, 1) := by decide +kernel
theorem d_Ne_searchRound_111 : decode y_Ne_searchRound.2.1 111 = .ok (.goto 29, 3) := by decide +kernel
theorem d_Ne_searchRound_114 : decode y_Ne_searchRound.2.1 114 = .ok (.aload_n 0, 1) := by decide +kernel
theorem d_Ne_searchRound_115 : decode y_Ne_searchRound.2.1 115 = .ok (.getfield 18, 3) := by decide +kernel
theorem d_Ne_searchRound_118 : decode y_Ne_searchRound.2.1 118 = .ok (.iload_n 2, 1) := by decide +kernel
theorem d_Ne_searchRound_119 : decode y_Ne_searchRound.2.1 119 = .ok (.iload 5, 2) := by decide +kernel
theorem d_Ne_searchRound_121 : decode y_Ne_searchRound.2.1 121 = .ok (.iastore, 1) := by decide +kernel
theorem d_Ne_searchRound_122 : decode y_Ne_searchRound.2.1 122 = .ok (.iinc 2 1, 3) := by decide +kernel
theorem d_Ne_searchRound_125 : decode y_Ne_searchRound.2.1 125 = .ok (.aload_n 0, 1) := by decide +kernel
theorem d_Ne_searchRound_126 : decode y_Ne_searchRound.2.1 126 = .ok (.getfield 28, 3) := by decide +kernel
theorem d_Ne_searchRound_129 : decode y_Ne_searchRound.2.1 129 = .ok (.iload 5, 2) := by decide +kernel
theorem d_Ne_searchRound_131 : decode y_Ne_searchRound.2.1 131 = .ok (.iaload, 1) := by decide +kernel
theorem d_Ne_searchRound_132 : decode y_Ne_searchRound.2.1 132 = .ok (.istore_n 3, 1) := by decide +kernel
theorem d_Ne_searchRound_133 : decode y_Ne_searchRound.2.1 133 = .ok (.aload_n 0, 1) := by decide +kernel
theorem d_Ne_searchRound_134 : decode y_Ne_searchRound.2.1 134 = .ok (.getfield 21, 3) := by decide +kernel
theorem d_Ne_searchRound_137 : decode y_Ne_searchRound.2.1 137 = .ok (.iload_n 3, 1) := by decide +kernel
theorem d_Ne_searchRound_138 : decode y_Ne_searchRound.2.1 138 = .ok (.iconst 1, 1) := by decide +kernel
theorem d_Ne_searchRound_139 : decode y_Ne_searchRound.2.1 139 = .ok (.bastore, 1) := by decide +kernel
theorem d_Ne_searchRound_140 : decode y_Ne_searchRound.2.1 140 = .ok (.iload_n 3, 1) := by decide +kernel
theorem d_Ne_searchRound_141 : decode y_Ne_searchRound.2.1 141 = .ok (.sipush 337, 3) := by decide +kernel
theorem d_Ne_searchRound_144 : decode y_Ne_searchRound.2.1 144 = .ok (.if_icmp .ne 47, 3) := by decide +kernel
theorem d_Ne_searchRound_147 : decode y_Ne_searchRound.2.1 147 = .ok (.aload_n 0, 1) := by decide +kernel
theorem d_Ne_searchRound_148 : decode y_Ne_searchRound.2.1 148 = .ok (.iload_n 2, 1) := by decide +kernel
theorem d_Ne_searchRound_149 : decode y_Ne_searchRound.2.1 149 = .ok (.invokevirtual 51, 3) := by decide +kernel
theorem d_Ne_searchRound_152 : decode y_Ne_searchRound.2.1 152 = .ok (.istore 6, 2) := by decide +kernel
theorem d_Ne_searchRound_154 : decode y_Ne_searchRound.2.1 154 = .ok (.iload_n 1, 1) := by decide +kernel
theorem d_Ne_searchRound_155 : decode y_Ne_searchRound.2.1 155 = .ok (.iload 6, 2) := by decide +kernel
theorem d_Ne_searchRound_157 : decode y_Ne_searchRound.2.1 157 = .ok (.iadd, 1) := by decide +kernel
theorem d_Ne_searchRound_158 : decode y_Ne_searchRound.2.1 158 = .ok (.istore_n 1, 1) := by decide +kernel
theorem d_Ne_searchRound_159 : decode y_Ne_searchRound.2.1 159 = .ok (.aload_n 0, 1) := by decide +kernel
theorem d_Ne_searchRound_160 : decode y_Ne_searchRound.2.1 160 = .ok (.iload_n 2, 1) := by decide +kernel
theorem d_Ne_searchRound_161 : decode y_Ne_searchRound.2.1 161 = .ok (.iload 6, 2) := by decide +kernel
theorem d_Ne_searchRound_163 : decode y_Ne_searchRound.2.1 163 = .ok (.invokevirtual 54, 3) := by decide +kernel
theorem d_Ne_searchRound_166 : decode y_Ne_searchRound.2.1 166 = .ok (.istore_n 2, 1) := by decide +kernel
theorem d_Ne_searchRound_167 : decode y_Ne_searchRound.2.1 167 = .ok (.iload_n 2, 1) := by decide +kernel
theorem d_Ne_searchRound_168 : decode y_Ne_searchRound.2.1 168 = .ok (.ifCond .ne 9, 3) := by decide +kernel
theorem d_Ne_searchRound_171 : decode y_Ne_searchRound.2.1 171 = .ok (.sipush 336, 3) := by decide +kernel
theorem d_Ne_searchRound_174 : decode y_Ne_searchRound.2.1 174 = .ok (.goto 16, 3) := by decide +kernel
theorem d_Ne_searchRound_177 : decode y_Ne_searchRound.2.1 177 = .ok (.aload_n 0, 1) := by decide +kernel
theorem d_Ne_searchRound_178 : decode y_Ne_searchRound.2.1 178 = .ok (.getfield 28, 3) := by decide +kernel
theorem d_Ne_searchRound_181 : decode y_Ne_searchRound.2.1 181 = .ok (.aload_n 0, 1) := by decide +kernel
theorem d_Ne_searchRound_182 : decode y_Ne_searchRound.2.1 182 = .ok (.getfield 18, 3) := by decide +kernel
theorem d_Ne_searchRound_185 : decode y_Ne_searchRound.2.1 185 = .ok (.iload_n 2, 1) := by decide +kernel
theorem d_Ne_searchRound_186 : decode y_Ne_searchRound.2.1 186 = .ok (.iconst 1, 1) := by decide +kernel
theorem d_Ne_searchRound_187 : decode y_Ne_searchRound.2.1 187 = .ok (.isub, 1) := by decide +kernel
theorem d_Ne_searchRound_188 : decode y_Ne_searchRound.2.1 188 = .ok (.iaload, 1) := by decide +kernel
theorem d_Ne_searchRound_189 : decode y_Ne_searchRound.2.1 189 = .ok (.iaload, 1) := by decide +kernel
theorem d_Ne_searchRound_190 : decode y_Ne_searchRound.2.1 190 = .ok (.istore_n 3, 1) := by decide +kernel
theorem d_Ne_searchRound_191 : decode y_Ne_searchRound.2.1 191 = .ok (.iinc 4 1, 3) := by decide +kernel
theorem d_Ne_searchRound_194 : decode y_Ne_searchRound.2.1 194 = .ok (.goto (-140), 3) := by decide +kernel
theorem d_Ne_searchRound_197 : decode y_Ne_searchRound.2.1 197 = .ok (.iload_n 1, 1) := by decide +kernel
theorem d_Ne_searchRound_198 : decode y_Ne_searchRound.2.1 198 = .ok (.ireturn, 1) := by decide +kernel
theorem d_Ne_nextArc_0 : decode y_Ne_nextArc.2.1 0 = .ok (.aload_n 0, 1) := by decide +kernel
theorem d_Ne_nextArc_1 : decode y_Ne_nextArc.2.1 1 = .ok (.getfield 15, 3) := by decide +kernel
theorem d_Ne_nextArc_4 : decode y_Ne_nextArc.2.1 4 = .ok (.iload_n 1, 1) := by decide +kernel
theorem d_Ne_nextArc_5 : decode y_Ne_nextArc.2.1 5 = .ok (.iaload, 1) := by decide +kernel
theorem d_Ne_nextArc_6 : decode y_Ne_nextArc.2.1 6 = .ok (.istore_n 2, 1) := by decide +kernel
theorem d_Ne_nextArc_7 : decode y_Ne_nextArc.2.1 7 = .ok (.iconst 0, 1) := by decide +kernel
theorem d_Ne_nextArc_8 : decode y_Ne_nextArc.2.1 8 = .ok (.istore_n 3, 1) := by decide +kernel
theorem d_Ne_nextArc_9 : decode y_Ne_nextArc.2.1 9 = .ok (.iload_n 3, 1) := by decide +kernel
theorem d_Ne_nextArc_10 : decode y_Ne_nextArc.2.1 10 = .ok (.sipush 2048, 3) := by decide +kernel
theorem d_Ne_nextArc_13 : decode y_Ne_nextArc.2.1 13 = .ok (.if_icmp .ge 47, 3) := by decide +kernel
theorem d_Ne_nextArc_16 : decode y_Ne_nextArc.2.1 16 = .ok (.iload_n 2, 1) := by decide +kernel
theorem d_Ne_nextArc_17 : decode y_Ne_nextArc.2.1 17 = .ok (.iconst (-1), 1) := by decide +kernel
theorem d_Ne_nextArc_18 : decode y_Ne_nextArc.2.1 18 = .ok (.if_icmp .eq 42, 3) := by decide +kernel
theorem d_Ne_nextArc_21 : decode y_Ne_nextArc.2.1 21 = .ok (.aload_n 0, 1) := by decide +kernel
theorem d_Ne_nextArc_22 : decode y_Ne_nextArc.2.1 22 = .ok (.getfield 31, 3) := by decide +kernel
theorem d_Ne_nextArc_25 : decode y_Ne_nextArc.2.1 25 = .ok (.iload_n 2, 1) := by decide +kernel
theorem d_Ne_nextArc_26 : decode y_Ne_nextArc.2.1 26 = .ok (.iaload, 1) := by decide +kernel
theorem d_Ne_nextArc_27 : decode y_Ne_nextArc.2.1 27 = .ok (.ifCond .le 20, 3) := by decide +kernel
theorem d_Ne_nextArc_30 : decode y_Ne_nextArc.2.1 30 = .ok (.aload_n 0, 1) := by decide +kernel
theorem d_Ne_nextArc_31 : decode y_Ne_nextArc.2.1 31 = .ok (.getfield 21, 3) := by decide +kernel
theorem d_Ne_nextArc_34 : decode y_Ne_nextArc.2.1 34 = .ok (.aload_n 0, 1) := by decide +kernel
theorem d_Ne_nextArc_35 : decode y_Ne_nextArc.2.1 35 = .ok (.getfield 28, 3) := by decide +kernel
theorem d_Ne_nextArc_38 : decode y_Ne_nextArc.2.1 38 = .ok (.iload_n 2, 1) := by decide +kernel
theorem d_Ne_nextArc_39 : decode y_Ne_nextArc.2.1 39 = .ok (.iaload, 1) := by decide +kernel
theorem d_Ne_nextArc_40 : decode y_Ne_nextArc.2.1 40 = .ok (.baload, 1) := by decide +kernel
theorem d_Ne_nextArc_41 : decode y_Ne_nextArc.2.1 41 = .ok (.ifCond .ne 6, 3) := by decide +kernel
theorem d_Ne_nextArc_44 : decode y_Ne_nextArc.2.1 44 = .ok (.goto 16, 3) := by decide +kernel
theorem d_Ne_nextArc_47 : decode y_Ne_nextArc.2.1 47 = .ok (.aload_n 0, 1) := by decide +kernel
theorem d_Ne_nextArc_48 : decode y_Ne_nextArc.2.1 48 = .ok (.getfield 25, 3) := by decide +kernel
theorem d_Ne_nextArc_51 : decode y_Ne_nextArc.2.1 51 = .ok (.iload_n 2, 1) := by decide +kernel
theorem d_Ne_nextArc_52 : decode y_Ne_nextArc.2.1 52 = .ok (.iaload, 1) := by decide +kernel
theorem d_Ne_nextArc_53 : decode y_Ne_nextArc.2.1 53 = .ok (.istore_n 2, 1) := by decide +kernel
theorem d_Ne_nextArc_54 : decode y_Ne_nextArc.2.1 54 = .ok (.iinc 3 1, 3) := by decide +kernel
theorem d_Ne_nextArc_57 : decode y_Ne_nextArc.2.1 57 = .ok (.goto (-48), 3) := by decide +kernel
theorem d_Ne_nextArc_60 : decode y_Ne_nextArc.2.1 60 = .ok (.aload_n 0, 1) := by decide +kernel
theorem d_Ne_nextArc_61 : decode y_Ne_nextArc.2.1 61 = .ok (.getfield 15, 3) := by decide +kernel
theorem d_Ne_nextArc_64 : decode y_Ne_nextArc.2.1 64 = .ok (.iload_n 1, 1) := by decide +kernel
theorem d_Ne_nextArc_65 : decode y_Ne_nextArc.2.1 65 = .ok (.iload_n 2, 1) := by decide +kernel
theorem d_Ne_nextArc_66 : decode y_Ne_nextArc.2.1 66 = .ok (.iastore, 1) := by decide +kernel
theorem d_Ne_nextArc_67 : decode y_Ne_nextArc.2.1 67 = .ok (.iload_n 2, 1) := by decide +kernel
theorem d_Ne_nextArc_68 : decode y_Ne_nextArc.2.1 68 = .ok (.ireturn, 1) := by decide +kernel
theorem d_Ne_leastFree_0 : decode y_Ne_leastFree.2.1 0 = .ok (.ldc 42, 2) := by decide +kernel
theorem d_Ne_leastFree_2 : decode y_Ne_leastFree.2.1 2 = .ok (.istore_n 2, 1) := by decide +kernel
theorem d_Ne_leastFree_3 : decode y_Ne_leastFree.2.1 3 = .ok (.iconst 0, 1) := by decide +kernel
theorem d_Ne_leastFree_4 : decode y_Ne_leastFree.2.1 4 = .ok (.istore_n 3, 1) := by decide +kernel
theorem d_Ne_leastFree_5 : decode y_Ne_leastFree.2.1 5 = .ok (.iload_n 3, 1) := by decide +kernel
theorem d_Ne_leastFree_6 : decode y_Ne_leastFree.2.1 6 = .ok (.iload_n 1, 1) := by decide +kernel
theorem d_Ne_leastFree_7 : decode y_Ne_leastFree.2.1 7 = .ok (.if_icmp .ge 35, 3) := by decide +kernel
theorem d_Ne_leastFree_10 : decode y_Ne_leastFree.2.1 10 = .ok (.aload_n 0, 1) := by decide +kernel
theorem d_Ne_leastFree_11 : decode y_Ne_leastFree.2.1 11 = .ok (.getfield 31, 3) := by decide +kernel
theorem d_Ne_leastFree_14 : decode y_Ne_leastFree.2.1 14 = .ok (.aload_n 0, 1) := by decide +kernel
theorem d_Ne_leastFree_15 : decode y_Ne_leastFree.2.1 15 = .ok (.getfield 18, 3) := by decide +kernel
theorem d_Ne_leastFree_18 : decode y_Ne_leastFree.2.1 18 = .ok (.iload_n 3, 1) := by decide +kernel
theorem d_Ne_leastFree_19 : decode y_Ne_leastFree.2.1 19 = .ok (.iaload, 1) := by decide +kernel
theorem d_Ne_leastFree_20 : decode y_Ne_leastFree.2.1 20 = .ok (.iaload, 1) := by decide +kernel
theorem d_Ne_leastFree_21 : decode y_Ne_leastFree.2.1 21 = .ok (.istore 4, 2) := by decide +kernel
theorem d_Ne_leastFree_23 : decode y_Ne_leastFree.2.1 23 = .ok (.iload 4, 2) := by decide +kernel
theorem d_Ne_leastFree_25 : decode y_Ne_leastFree.2.1 25 = .ok (.iload_n 2, 1) := by decide +kernel
theorem d_Ne_leastFree_26 : decode y_Ne_leastFree.2.1 26 = .ok (.if_icmp .ge 8, 3) := by decide +kernel
theorem d_Ne_leastFree_29 : decode y_Ne_leastFree.2.1 29 = .ok (.iload 4, 2) := by decide +kernel
theorem d_Ne_leastFree_31 : decode y_Ne_leastFree.2.1 31 = .ok (.goto 4, 3) := by decide +kernel
theorem d_Ne_leastFree_34 : decode y_Ne_leastFree.2.1 34 = .ok (.iload_n 2, 1) := by decide +kernel
theorem d_Ne_leastFree_35 : decode y_Ne_leastFree.2.1 35 = .ok (.istore_n 2, 1) := by decide +kernel
theorem d_Ne_leastFree_36 : decode y_Ne_leastFree.2.1 36 = .ok (.iinc 3 1, 3) := by decide +kernel
theorem d_Ne_leastFree_39 : decode y_Ne_leastFree.2.1 39 = .ok (.goto (-34), 3) := by decide +kernel
theorem d_Ne_leastFree_42 : decode y_Ne_leastFree.2.1 42 = .ok (.iload_n 2, 1) := by decide +kernel
theorem d_Ne_leastFree_43 : decode y_Ne_leastFree.2.1 43 = .ok (.ireturn, 1) := by decide +kernel
theorem d_Ne_send_0 : decode y_Ne_send.2.1 0 = .ok (.iload_n 1, 1) := by decide +kernel
theorem d_Ne_send_1 : decode y_Ne_send.2.1 1 = .ok (.istore_n 3, 1) := by decide +kernel
theorem d_Ne_send_2 : decode y_Ne_send.2.1 2 = .ok (.iload_n 1, 1) := by decide +kernel
theorem d_Ne_send_3 : decode y_Ne_send.2.1 3 = .ok (.iconst 1, 1) := by decide +kernel
theorem d_Ne_send_4 : decode y_Ne_send.2.1 4 = .ok (.isub, 1) := by decide +kernel
theorem d_Ne_send_5 : decode y_Ne_send.2.1 5 = .ok (.istore 4, 2) := by decide +kernel
theorem d_Ne_send_7 : decode y_Ne_send.2.1 7 = .ok (.iload 4, 2) := by decide +kernel
theorem d_Ne_send_9 : decode y_Ne_send.2.1 9 = .ok (.ifCond .lt 55, 3) := by decide +kernel
theorem d_Ne_send_12 : decode y_Ne_send.2.1 12 = .ok (.aload_n 0, 1) := by decide +kernel
theorem d_Ne_send_13 : decode y_Ne_send.2.1 13 = .ok (.getfield 18, 3) := by decide +kernel
theorem d_Ne_send_16 : decode y_Ne_send.2.1 16 = .ok (.iload 4, 2) := by decide +kernel
theorem d_Ne_send_18 : decode y_Ne_send.2.1 18 = .ok (.iaload, 1) := by decide +kernel
theorem d_Ne_send_19 : decode y_Ne_send.2.1 19 = .ok (.istore 5, 2) := by decide +kernel
theorem d_Ne_send_21 : decode y_Ne_send.2.1 21 = .ok (.aload_n 0, 1) := by decide +kernel
theorem d_Ne_send_22 : decode y_Ne_send.2.1 22 = .ok (.getfield 31, 3) := by decide +kernel
theorem d_Ne_send_25 : decode y_Ne_send.2.1 25 = .ok (.iload 5, 2) := by decide +kernel
theorem d_Ne_send_27 : decode y_Ne_send.2.1 27 = .ok (.dup2, 1) := by decide +kernel
theorem d_Ne_send_28 : decode y_Ne_send.2.1 28 = .ok (.iaload, 1) := by decide +kernel
theorem d_Ne_send_29 : decode y_Ne_send.2.1 29 = .ok (.iload_n 2, 1) := by decide +kernel
theorem d_Ne_send_30 : decode y_Ne_send.2.1 30 = .ok (.isub, 1) := by decide +kernel
theorem d_Ne_send_31 : decode y_Ne_send.2.1 31 = .ok (.iastore, 1) := by decide +kernel
theorem d_Ne_send_32 : decode y_Ne_send.2.1 32 = .ok (.aload_n 0, 1) := by decide +kernel
theorem d_Ne_send_33 : decode y_Ne_send.2.1 33 = .ok (.getfield 31, 3) := by decide +kernel
theorem d_Ne_send_36 : decode y_Ne_send.2.1 36 = .ok (.iload 5, 2) := by decide +kernel
theorem d_Ne_send_38 : decode y_Ne_send.2.1 38 = .ok (.iconst 1, 1) := by decide +kernel
theorem d_Ne_send_39 : decode y_Ne_send.2.1 39 = .ok (.ixor, 1) := by decide +kernel
theorem d_Ne_send_40 : decode y_Ne_send.2.1 40 = .ok (.dup2, 1) := by decide +kernel
theorem d_Ne_send_41 : decode y_Ne_send.2.1 41 = .ok (.iaload, 1) := by decide +kernel
theorem d_Ne_send_42 : decode y_Ne_send.2.1 42 = .ok (.iload_n 2, 1) := by decide +kernel
theorem d_Ne_send_43 : decode y_Ne_send.2.1 43 = .ok (.iadd, 1) := by decide +kernel
theorem d_Ne_send_44 : decode y_Ne_send.2.1 44 = .ok (.iastore, 1) := by decide +kernel
theorem d_Ne_send_45 : decode y_Ne_send.2.1 45 = .ok (.aload_n 0, 1) := by decide +kernel
theorem d_Ne_send_46 : decode y_Ne_send.2.1 46 = .ok (.getfield 31, 3) := by decide +kernel
theorem d_Ne_send_49 : decode y_Ne_send.2.1 49 = .ok (.iload 5, 2) := by decide +kernel
theorem d_Ne_send_51 : decode y_Ne_send.2.1 51 = .ok (.iaload, 1) := by decide +kernel
theorem d_Ne_send_52 : decode y_Ne_send.2.1 52 = .ok (.ifCond .ne 6, 3) := by decide +kernel
theorem d_Ne_send_55 : decode y_Ne_send.2.1 55 = .ok (.iload 4, 2) := by decide +kernel
theorem d_Ne_send_57 : decode y_Ne_send.2.1 57 = .ok (.istore_n 3, 1) := by decide +kernel
theorem d_Ne_send_58 : decode y_Ne_send.2.1 58 = .ok (.iinc 4 (-1), 3) := by decide +kernel
theorem d_Ne_send_61 : decode y_Ne_send.2.1 61 = .ok (.goto (-54), 3) := by decide +kernel
theorem d_Ne_send_64 : decode y_Ne_send.2.1 64 = .ok (.iload_n 3, 1) := by decide +kernel
theorem d_Ne_send_65 : decode y_Ne_send.2.1 65 = .ok (.istore 4, 2) := by decide +kernel
theorem d_Ne_send_67 : decode y_Ne_send.2.1 67 = .ok (.iload 4, 2) := by decide +kernel
theorem d_Ne_send_69 : decode y_Ne_send.2.1 69 = .ok (.iload_n 1, 1) := by decide +kernel
theorem d_Ne_send_70 : decode y_Ne_send.2.1 70 = .ok (.if_icmp .ge 27, 3) := by decide +kernel
theorem d_Ne_send_73 : decode y_Ne_send.2.1 73 = .ok (.aload_n 0, 1) := by decide +kernel
theorem d_Ne_send_74 : decode y_Ne_send.2.1 74 = .ok (.getfield 21, 3) := by decide +kernel
theorem d_Ne_send_77 : decode y_Ne_send.2.1 77 = .ok (.aload_n 0, 1) := by decide +kernel
theorem d_Ne_send_78 : decode y_Ne_send.2.1 78 = .ok (.getfield 28, 3) := by decide +kernel
theorem d_Ne_send_81 : decode y_Ne_send.2.1 81 = .ok (.aload_n 0, 1) := by decide +kernel
theorem d_Ne_send_82 : decode y_Ne_send.2.1 82 = .ok (.getfield 18, 3) := by decide +kernel
theorem d_Ne_send_85 : decode y_Ne_send.2.1 85 = .ok (.iload 4, 2) := by decide +kernel
theorem d_Ne_send_87 : decode y_Ne_send.2.1 87 = .ok (.iaload, 1) := by decide +kernel
theorem d_Ne_send_88 : decode y_Ne_send.2.1 88 = .ok (.iaload, 1) := by decide +kernel
theorem d_Ne_send_89 : decode y_Ne_send.2.1 89 = .ok (.iconst 0, 1) := by decide +kernel
theorem d_Ne_send_90 : decode y_Ne_send.2.1 90 = .ok (.bastore, 1) := by decide +kernel
theorem d_Ne_send_91 : decode y_Ne_send.2.1 91 = .ok (.iinc 4 1, 3) := by decide +kernel
theorem d_Ne_send_94 : decode y_Ne_send.2.1 94 = .ok (.goto (-27), 3) := by decide +kernel
theorem d_Ne_send_97 : decode y_Ne_send.2.1 97 = .ok (.iload_n 3, 1) := by decide +kernel
theorem d_Ne_send_98 : decode y_Ne_send.2.1 98 = .ok (.ireturn, 1) := by decide +kernel
theorem d_Pe_init_0 : decode y_Pe_init.2.1 0 = .ok (.aload_n 0, 1) := by decide +kernel
theorem d_Pe_init_1 : decode y_Pe_init.2.1 1 = .ok (.invokespecial 3, 3) := by decide +kernel
theorem d_Pe_init_4 : decode y_Pe_init.2.1 4 = .ok (.aload_n 0, 1) := by decide +kernel
theorem d_Pe_init_5 : decode y_Pe_init.2.1 5 = .ok (.sipush 168, 3) := by decide +kernel
theorem d_Pe_init_8 : decode y_Pe_init.2.1 8 = .ok (.newarray .int, 2) := by decide +kernel
theorem d_Pe_init_10 : decode y_Pe_init.2.1 10 = .ok (.putfield 9, 3) := by decide +kernel
theorem d_Pe_init_13 : decode y_Pe_init.2.1 13 = .ok (.aload_n 0, 1) := by decide +kernel
theorem d_Pe_init_14 : decode y_Pe_init.2.1 14 = .ok (.sipush 168, 3) := by decide +kernel
theorem d_Pe_init_17 : decode y_Pe_init.2.1 17 = .ok (.newarray .int, 2) := by decide +kernel
theorem d_Pe_init_19 : decode y_Pe_init.2.1 19 = .ok (.putfield 15, 3) := by decide +kernel
theorem d_Pe_init_22 : decode y_Pe_init.2.1 22 = .ok (.aload_n 0, 1) := by decide +kernel
theorem d_Pe_init_23 : decode y_Pe_init.2.1 23 = .ok (.sipush 168, 3) := by decide +kernel
theorem d_Pe_init_26 : decode y_Pe_init.2.1 26 = .ok (.newarray .int, 2) := by decide +kernel
theorem d_Pe_init_28 : decode y_Pe_init.2.1 28 = .ok (.putfield 18, 3) := by decide +kernel
theorem d_Pe_init_31 : decode y_Pe_init.2.1 31 = .ok (.aload_n 0, 1) := by decide +kernel
theorem d_Pe_init_32 : decode y_Pe_init.2.1 32 = .ok (.aload_n 1, 1) := by decide +kernel
theorem d_Pe_init_33 : decode y_Pe_init.2.1 33 = .ok (.putfield 21, 3) := by decide +kernel
theorem d_Pe_init_36 : decode y_Pe_init.2.1 36 = .ok (.aload_n 0, 1) := by decide +kernel
theorem d_Pe_init_37 : decode y_Pe_init.2.1 37 = .ok (.aload_n 2, 1) := by decide +kernel
theorem d_Pe_init_38 : decode y_Pe_init.2.1 38 = .ok (.putfield 25, 3) := by decide +kernel
theorem d_Pe_init_41 : decode y_Pe_init.2.1 41 = .ok (.return_, 1) := by decide +kernel
theorem d_Pe_weigh_0 : decode y_Pe_weigh.2.1 0 = .ok (.aload_n 0, 1) := by decide +kernel
theorem d_Pe_weigh_1 : decode y_Pe_weigh.2.1 1 = .ok (.getfield 21, 3) := by decide +kernel
theorem d_Pe_weigh_4 : decode y_Pe_weigh.2.1 4 = .ok (.invokevirtual 29, 3) := by decide +kernel
theorem d_Pe_weigh_7 : decode y_Pe_weigh.2.1 7 = .ok (.istore_n 1, 1) := by decide +kernel
theorem d_Pe_weigh_8 : decode y_Pe_weigh.2.1 8 = .ok (.bipush 20, 2) := by decide +kernel
theorem d_Pe_weigh_10 : decode y_Pe_weigh.2.1 10 = .ok (.istore_n 2, 1) := by decide +kernel
theorem d_Pe_weigh_11 : decode y_Pe_weigh.2.1 11 = .ok (.iload_n 2, 1) := by decide +kernel
theorem d_Pe_weigh_12 : decode y_Pe_weigh.2.1 12 = .ok (.ifCond .lt 38, 3) := by decide +kernel
theorem d_Pe_weigh_15 : decode y_Pe_weigh.2.1 15 = .ok (.iconst 0, 1) := by decide +kernel
theorem d_Pe_weigh_16 : decode y_Pe_weigh.2.1 16 = .ok (.istore_n 3, 1) := by decide +kernel
theorem d_Pe_weigh_17 : decode y_Pe_weigh.2.1 17 = .ok (.iload_n 3, 1) := by decide +kernel
theorem d_Pe_weigh_18 : decode y_Pe_weigh.2.1 18 = .ok (.aload_n 0, 1) := by decide +kernel
theorem d_Pe_weigh_19 : decode y_Pe_weigh.2.1 19 = .ok (.getfield 21, 3) := by decide +kernel
theorem d_Pe_weigh_22 : decode y_Pe_weigh.2.1 22 = .ok (.getfield 35, 3) := by decide +kernel
theorem d_Pe_weigh_25 : decode y_Pe_weigh.2.1 25 = .ok (.invokevirtual 39, 3) := by decide +kernel
theorem d_Pe_weigh_28 : decode y_Pe_weigh.2.1 28 = .ok (.if_icmp .ge 16, 3) := by decide +kernel
theorem d_Pe_weigh_31 : decode y_Pe_weigh.2.1 31 = .ok (.aload_n 0, 1) := by decide +kernel
theorem d_Pe_weigh_32 : decode y_Pe_weigh.2.1 32 = .ok (.iload_n 3, 1) := by decide +kernel
theorem d_Pe_weigh_33 : decode y_Pe_weigh.2.1 33 = .ok (.iload_n 2, 1) := by decide +kernel
theorem d_Pe_weigh_34 : decode y_Pe_weigh.2.1 34 = .ok (.iload_n 1, 1) := by decide +kernel
theorem d_Pe_weigh_35 : decode y_Pe_weigh.2.1 35 = .ok (.invokevirtual 44, 3) := by decide +kernel
theorem d_Pe_weigh_38 : decode y_Pe_weigh.2.1 38 = .ok (.iinc 3 1, 3) := by decide +kernel
theorem d_Pe_weigh_41 : decode y_Pe_weigh.2.1 41 = .ok (.goto (-24), 3) := by decide +kernel
theorem d_Pe_weigh_44 : decode y_Pe_weigh.2.1 44 = .ok (.iinc 2 (-1), 3) := by decide +kernel
theorem d_Pe_weigh_47 : decode y_Pe_weigh.2.1 47 = .ok (.goto (-36), 3) := by decide +kernel
theorem d_Pe_weigh_50 : decode y_Pe_weigh.2.1 50 = .ok (.return_, 1) := by decide +kernel
theorem d_Pe_doseFrom_0 : decode y_Pe_doseFrom.2.1 0 = .ok (.iload_n 1, 1) := by decide +kernel
theorem d_Pe_doseFrom_1 : decode y_Pe_doseFrom.2.1 1 = .ok (.iload_n 2, 1) := by decide +kernel
theorem d_Pe_doseFrom_2 : decode y_Pe_doseFrom.2.1 2 = .ok (.invokestatic 48, 3) := by decide +kernel
theorem d_Pe_doseFrom_5 : decode y_Pe_doseFrom.2.1 5 = .ok (.ifCond .eq 16, 3) := by decide +kernel
theorem d_Pe_doseFrom_8 : decode y_Pe_doseFrom.2.1 8 = .ok (.aload_n 0, 1) := by decide +kernel
theorem d_Pe_doseFrom_9 : decode y_Pe_doseFrom.2.1 9 = .ok (.getfield 9, 3) := by decide +kernel
theorem d_Pe_doseFrom_12 : decode y_Pe_doseFrom.2.1 12 = .ok (.iload_n 1, 1) := by decide +kernel
theorem d_Pe_doseFrom_13 : decode y_Pe_doseFrom.2.1 13 = .ok (.iload_n 2, 1) := by decide +kernel
theorem d_Pe_doseFrom_14 : decode y_Pe_doseFrom.2.1 14 = .ok (.invokestatic 52, 3) := by decide +kernel
theorem d_Pe_doseFrom_17 : decode y_Pe_doseFrom.2.1 17 = .ok (.iaload, 1) := by decide +kernel
theorem d_Pe_doseFrom_18 : decode y_Pe_doseFrom.2.1 18 = .ok (.goto 4, 3) := by decide +kernel
theorem d_Pe_doseFrom_21 : decode y_Pe_doseFrom.2.1 21 = .ok (.iconst (-1), 1) := by decide +kernel
theorem d_Pe_doseFrom_22 : decode y_Pe_doseFrom.2.1 22 = .ok (.ireturn, 1) := by decide +kernel
theorem d_Pe_outFrom_0 : decode y_Pe_outFrom.2.1 0 = .ok (.aload_n 0, 1) := by decide +kernel
theorem d_Pe_outFrom_1 : decode y_Pe_outFrom.2.1 1 = .ok (.iload_n 1, 1) := by decide +kernel
theorem d_Pe_outFrom_2 : decode y_Pe_outFrom.2.1 2 = .ok (.iload_n 2, 1) := by decide +kernel
theorem d_Pe_outFrom_3 : decode y_Pe_outFrom.2.1 3 = .ok (.invokevirtual 56, 3) := by decide +kernel
theorem d_Pe_outFrom_6 : decode y_Pe_outFrom.2.1 6 = .ok (.iconst (-1), 1) := by decide +kernel
theorem d_Pe_outFrom_7 : decode y_Pe_outFrom.2.1 7 = .ok (.if_icmp .ne 7, 3) := by decide +kernel
theorem d_Pe_outFrom_10 : decode y_Pe_outFrom.2.1 10 = .ok (.iconst (-1), 1) := by decide +kernel
theorem d_Pe_outFrom_11 : decode y_Pe_outFrom.2.1 11 = .ok (.goto 13, 3) := by decide +kernel
theorem d_Pe_outFrom_14 : decode y_Pe_outFrom.2.1 14 = .ok (.aload_n 0, 1) := by decide +kernel
theorem d_Pe_outFrom_15 : decode y_Pe_outFrom.2.1 15 = .ok (.getfield 15, 3) := by decide +kernel
theorem d_Pe_outFrom_18 : decode y_Pe_outFrom.2.1 18 = .ok (.iload_n 1, 1) := by decide +kernel
theorem d_Pe_outFrom_19 : decode y_Pe_outFrom.2.1 19 = .ok (.iload_n 2, 1) := by decide +kernel
theorem d_Pe_outFrom_20 : decode y_Pe_outFrom.2.1 20 = .ok (.invokestatic 52, 3) := by decide +kernel
theorem d_Pe_outFrom_23 : decode y_Pe_outFrom.2.1 23 = .ok (.iaload, 1) := by decide +kernel
theorem d_Pe_outFrom_24 : decode y_Pe_outFrom.2.1 24 = .ok (.ireturn, 1) := by decide +kernel
theorem d_Pe_whereFrom_0 : decode y_Pe_whereFrom.2.1 0 = .ok (.aload_n 0, 1) := by decide +kernel
theorem d_Pe_whereFrom_1 : decode y_Pe_whereFrom.2.1 1 = .ok (.iload_n 1, 1) := by decide +kernel
theorem d_Pe_whereFrom_2 : decode y_Pe_whereFrom.2.1 2 = .ok (.iload_n 2, 1) := by decide +kernel
theorem d_Pe_whereFrom_3 : decode y_Pe_whereFrom.2.1 3 = .ok (.invokevirtual 56, 3) := by decide +kernel
theorem d_Pe_whereFrom_6 : decode y_Pe_whereFrom.2.1 6 = .ok (.iconst (-1), 1) := by decide +kernel
theorem d_Pe_whereFrom_7 : decode y_Pe_whereFrom.2.1 7 = .ok (.if_icmp .ne 5, 3) := by decide +kernel
theorem d_Pe_whereFrom_10 : decode y_Pe_whereFrom.2.1 10 = .ok (.iconst (-1), 1) := by decide +kernel
theorem d_Pe_whereFrom_11 : decode y_Pe_whereFrom.2.1 11 = .ok (.ireturn, 1) := by decide +kernel
theorem d_Pe_whereFrom_12 : decode y_Pe_whereFrom.2.1 12 = .ok (.iload_n 1, 1) := by decide +kernel
theorem d_Pe_whereFrom_13 : decode y_Pe_whereFrom.2.1 13 = .ok (.istore 4, 2) := by decide +kernel
theorem d_Pe_whereFrom_15 : decode y_Pe_whereFrom.2.1 15 = .ok (.iload_n 2, 1) := by decide +kernel
theorem d_Pe_whereFrom_16 : decode y_Pe_whereFrom.2.1 16 = .ok (.istore 5, 2) := by decide +kernel
theorem d_Pe_whereFrom_18 : decode y_Pe_whereFrom.2.1 18 = .ok (.iconst 0, 1) := by decide +kernel
theorem d_Pe_whereFrom_19 : decode y_Pe_whereFrom.2.1 19 = .ok (.istore 6, 2) := by decide +kernel
theorem d_Pe_whereFrom_21 : decode y_Pe_whereFrom.2.1 21 = .ok (.iload 6, 2) := by decide +kernel
theorem d_Pe_whereFrom_23 : decode y_Pe_whereFrom.2.1 23 = .ok (.bipush 21, 2) := by decide +kernel
theorem d_Pe_whereFrom_25 : decode y_Pe_whereFrom.2.1 25 = .ok (.if_icmp .ge 85, 3) := by decide +kernel
theorem d_Pe_whereFrom_28 : decode y_Pe_whereFrom.2.1 28 = .ok (.iload 5, 2) := by decide +kernel
theorem d_Pe_whereFrom_30 : decode y_Pe_whereFrom.2.1 30 = .ok (.iload_n 3, 1) := by decide +kernel
theorem d_Pe_whereFrom_31 : decode y_Pe_whereFrom.2.1 31 = .ok (.if_icmp .ge 79, 3) := by decide +kernel
theorem d_Pe_whereFrom_34 : decode y_Pe_whereFrom.2.1 34 = .ok (.aload_n 0, 1) := by decide +kernel
theorem d_Pe_whereFrom_35 : decode y_Pe_whereFrom.2.1 35 = .ok (.getfield 18, 3) := by decide +kernel
theorem d_Pe_whereFrom_38 : decode y_Pe_whereFrom.2.1 38 = .ok (.iload 4, 2) := by decide +kernel
theorem d_Pe_whereFrom_40 : decode y_Pe_whereFrom.2.1 40 = .ok (.iload 5, 2) := by decide +kernel
theorem d_Pe_whereFrom_42 : decode y_Pe_whereFrom.2.1 42 = .ok (.invokestatic 52, 3) := by decide +kernel
theorem d_Pe_whereFrom_45 : decode y_Pe_whereFrom.2.1 45 = .ok (.iaload, 1) := by decide +kernel
theorem d_Pe_whereFrom_46 : decode y_Pe_whereFrom.2.1 46 = .ok (.istore 7, 2) := by decide +kernel
theorem d_Pe_whereFrom_48 : decode y_Pe_whereFrom.2.1 48 = .ok (.iload 7, 2) := by decide +kernel
theorem d_Pe_whereFrom_50 : decode y_Pe_whereFrom.2.1 50 = .ok (.ifCond .ne 5, 3) := by decide +kernel
theorem d_Pe_whereFrom_53 : decode y_Pe_whereFrom.2.1 53 = .ok (.iconst (-1), 1) := by decide +kernel
theorem d_Pe_whereFrom_54 : decode y_Pe_whereFrom.2.1 54 = .ok (.ireturn, 1) := by decide +kernel
theorem d_Pe_whereFrom_55 : decode y_Pe_whereFrom.2.1 55 = .ok (.iload 5, 2) := by decide +kernel
theorem d_Pe_whereFrom_57 : decode y_Pe_whereFrom.2.1 57 = .ok (.aload_n 0, 1) := by decide +kernel
theorem d_Pe_whereFrom_58 : decode y_Pe_whereFrom.2.1 58 = .ok (.iload 7, 2) := by decide +kernel
theorem d_Pe_whereFrom_60 : decode y_Pe_whereFrom.2.1 60 = .ok (.invokevirtual 59, 3) := by decide +kernel
theorem d_Pe_whereFrom_63 : decode y_Pe_whereFrom.2.1 63 = .ok (.iadd, 1) := by decide +kernel
theorem d_Pe_whereFrom_64 : decode y_Pe_whereFrom.2.1 64 = .ok (.istore 5, 2) := by decide +kernel
theorem d_Pe_whereFrom_66 : decode y_Pe_whereFrom.2.1 66 = .ok (.iload 7, 2) := by decide +kernel
theorem d_Pe_whereFrom_68 : decode y_Pe_whereFrom.2.1 68 = .ok (.iconst 1, 1) := by decide +kernel
theorem d_Pe_whereFrom_69 : decode y_Pe_whereFrom.2.1 69 = .ok (.if_icmp .ne 8, 3) := by decide +kernel
theorem d_Pe_whereFrom_72 : decode y_Pe_whereFrom.2.1 72 = .ok (.iload 4, 2) := by decide +kernel
theorem d_Pe_whereFrom_74 : decode y_Pe_whereFrom.2.1 74 = .ok (.goto 16, 3) := by decide +kernel
theorem d_Pe_whereFrom_77 : decode y_Pe_whereFrom.2.1 77 = .ok (.aload_n 0, 1) := by decide +kernel
theorem d_Pe_whereFrom_78 : decode y_Pe_whereFrom.2.1 78 = .ok (.getfield 21, 3) := by decide +kernel
theorem d_Pe_whereFrom_81 : decode y_Pe_whereFrom.2.1 81 = .ok (.iload 7, 2) := by decide +kernel
theorem d_Pe_whereFrom_83 : decode y_Pe_whereFrom.2.1 83 = .ok (.iconst 2, 1) := by decide +kernel
theorem d_Pe_whereFrom_84 : decode y_Pe_whereFrom.2.1 84 = .ok (.isub, 1) := by decide +kernel
theorem d_Pe_whereFrom_85 : decode y_Pe_whereFrom.2.1 85 = .ok (.iload 4, 2) := by decide +kernel
theorem d_Pe_whereFrom_87 : decode y_Pe_whereFrom.2.1 87 = .ok (.invokevirtual 63, 3) := by decide +kernel
theorem d_Pe_whereFrom_90 : decode y_Pe_whereFrom.2.1 90 = .ok (.istore 4, 2) := by decide +kernel
theorem d_Pe_whereFrom_92 : decode y_Pe_whereFrom.2.1 92 = .ok (.iload 4, 2) := by decide +kernel
theorem d_Pe_whereFrom_94 : decode y_Pe_whereFrom.2.1 94 = .ok (.iload 5, 2) := by decide +kernel
theorem d_Pe_whereFrom_96 : decode y_Pe_whereFrom.2.1 96 = .ok (.invokestatic 48, 3) := by decide +kernel
theorem d_Pe_whereFrom_99 : decode y_Pe_whereFrom.2.1 99 = .ok (.ifCond .ne 5, 3) := by decide +kernel
theorem d_Pe_whereFrom_102 : decode y_Pe_whereFrom.2.1 102 = .ok (.iconst (-1), 1) := by decide +kernel
theorem d_Pe_whereFrom_103 : decode y_Pe_whereFrom.2.1 103 = .ok (.ireturn, 1) := by decide +kernel
theorem d_Pe_whereFrom_104 : decode y_Pe_whereFrom.2.1 104 = .ok (.iinc 6 1, 3) := by decide +kernel
theorem d_Pe_whereFrom_107 : decode y_Pe_whereFrom.2.1 107 = .ok (.goto (-86), 3) := by decide +kernel
theorem d_Pe_whereFrom_110 : decode y_Pe_whereFrom.2.1 110 = .ok (.iload 5, 2) := by decide +kernel
theorem d_Pe_whereFrom_112 : decode y_Pe_whereFrom.2.1 112 = .ok (.iload_n 3, 1) := by decide +kernel
theorem d_Pe_whereFrom_113 : decode y_Pe_whereFrom.2.1 113 = .ok (.if_icmp .ne 8, 3) := by decide +kernel
theorem d_Pe_whereFrom_116 : decode y_Pe_whereFrom.2.1 116 = .ok (.iload 4, 2) := by decide +kernel
theorem d_Pe_whereFrom_118 : decode y_Pe_whereFrom.2.1 118 = .ok (.goto 4, 3) := by decide +kernel
theorem d_Pe_whereFrom_121 : decode y_Pe_whereFrom.2.1 121 = .ok (.iconst (-1), 1) := by decide +kernel
theorem d_Pe_whereFrom_122 : decode y_Pe_whereFrom.2.1 122 = .ok (.ireturn, 1) := by decide +kernel
theorem d_Pe_isPlace_0 : decode y_Pe_isPlace.2.1 0 = .ok (.iload_n 0, 1) := by decide +kernel
theorem d_Pe_isPlace_1 : decode y_Pe_isPlace.2.1 1 = .ok (.ifCond .lt 23, 3) := by decide +kernel
theorem d_Pe_isPlace_4 : decode y_Pe_isPlace.2.1 4 = .ok (.iload_n 0, 1) := by decide +kernel
theorem d_Pe_isPlace_5 : decode y_Pe_isPlace.2.1 5 = .ok (.bipush 8, 2) := by decide +kernel
theorem d_Pe_isPlace_7 : decode y_Pe_isPlace.2.1 7 = .ok (.if_icmp .ge 17, 3) := by decide +kernel
theorem d_Pe_isPlace_10 : decode y_Pe_isPlace.2.1 10 = .ok (.iload_n 1, 1) := by decide +kernel
theorem d_Pe_isPlace_11 : decode y_Pe_isPlace.2.1 11 = .ok (.ifCond .lt 13, 3) := by decide +kernel
theorem d_Pe_isPlace_14 : decode y_Pe_isPlace.2.1 14 = .ok (.iload_n 1, 1) := by decide +kernel
theorem d_Pe_isPlace_15 : decode y_Pe_isPlace.2.1 15 = .ok (.bipush 21, 2) := by decide +kernel
theorem d_Pe_isPlace_17 : decode y_Pe_isPlace.2.1 17 = .ok (.if_icmp .ge 7, 3) := by decide +kernel
theorem d_Pe_isPlace_20 : decode y_Pe_isPlace.2.1 20 = .ok (.iconst 1, 1) := by decide +kernel
theorem d_Pe_isPlace_21 : decode y_Pe_isPlace.2.1 21 = .ok (.goto 4, 3) := by decide +kernel
theorem d_Pe_isPlace_24 : decode y_Pe_isPlace.2.1 24 = .ok (.iconst 0, 1) := by decide +kernel
theorem d_Pe_isPlace_25 : decode y_Pe_isPlace.2.1 25 = .ok (.ireturn, 1) := by decide +kernel
theorem d_Pe_choose_0 : decode y_Pe_choose.2.1 0 = .ok (.iload_n 1, 1) := by decide +kernel
theorem d_Pe_choose_1 : decode y_Pe_choose.2.1 1 = .ok (.iload_n 2, 1) := by decide +kernel
theorem d_Pe_choose_2 : decode y_Pe_choose.2.1 2 = .ok (.invokestatic 52, 3) := by decide +kernel
theorem d_Pe_choose_5 : decode y_Pe_choose.2.1 5 = .ok (.istore 4, 2) := by decide +kernel
theorem d_Pe_choose_7 : decode y_Pe_choose.2.1 7 = .ok (.aload_n 0, 1) := by decide +kernel
theorem d_Pe_choose_8 : decode y_Pe_choose.2.1 8 = .ok (.getfield 9, 3) := by decide +kernel
theorem d_Pe_choose_11 : decode y_Pe_choose.2.1 11 = .ok (.iload 4, 2) := by decide +kernel
theorem d_Pe_choose_13 : decode y_Pe_choose.2.1 13 = .ok (.iconst (-1), 1) := by decide +kernel
theorem d_Pe_choose_14 : decode y_Pe_choose.2.1 14 = .ok (.iastore, 1) := by decide +kernel
theorem d_Pe_choose_15 : decode y_Pe_choose.2.1 15 = .ok (.aload_n 0, 1) := by decide +kernel
theorem d_Pe_choose_16 : decode y_Pe_choose.2.1 16 = .ok (.getfield 25, 3) := by decide +kernel
theorem d_Pe_choose_19 : decode y_Pe_choose.2.1 19 = .ok (.iload_n 1, 1) := by decide +kernel
theorem d_Pe_choose_20 : decode y_Pe_choose.2.1 20 = .ok (.iload_n 2, 1) := by decide +kernel
theorem d_Pe_choose_21 : decode y_Pe_choose.2.1 21 = .ok (.invokevirtual 66, 3) := by decide +kernel
theorem d_Pe_choose_24 : decode y_Pe_choose.2.1 24 = .ok (.ifCond .eq 4, 3) := by decide +kernel
theorem d_Pe_choose_27 : decode y_Pe_choose.2.1 27 = .ok (.return_, 1) := by decide +kernel
theorem d_Pe_choose_28 : decode y_Pe_choose.2.1 28 = .ok (.iload_n 2, 1) := by decide +kernel
theorem d_Pe_choose_29 : decode y_Pe_choose.2.1 29 = .ok (.bipush 20, 2) := by decide +kernel
theorem d_Pe_choose_31 : decode y_Pe_choose.2.1 31 = .ok (.if_icmp .ge 41, 3) := by decide +kernel
theorem d_Pe_choose_34 : decode y_Pe_choose.2.1 34 = .ok (.aload_n 0, 1) := by decide +kernel
theorem d_Pe_choose_35 : decode y_Pe_choose.2.1 35 = .ok (.getfield 21, 3) := by decide +kernel
theorem d_Pe_choose_38 : decode y_Pe_choose.2.1 38 = .ok (.iload_n 1, 1) := by decide +kernel
theorem d_Pe_choose_39 : decode y_Pe_choose.2.1 39 = .ok (.iload_n 3, 1) := by decide +kernel
theorem d_Pe_choose_40 : decode y_Pe_choose.2.1 40 = .ok (.invokevirtual 71, 3) := by decide +kernel
theorem d_Pe_choose_43 : decode y_Pe_choose.2.1 43 = .ok (.ifCond .le 29, 3) := by decide +kernel
theorem d_Pe_choose_46 : decode y_Pe_choose.2.1 46 = .ok (.aload_n 0, 1) := by decide +kernel
theorem d_Pe_choose_47 : decode y_Pe_choose.2.1 47 = .ok (.getfield 9, 3) := by decide +kernel
theorem d_Pe_choose_50 : decode y_Pe_choose.2.1 50 = .ok (.iload 4, 2) := by decide +kernel
theorem d_Pe_choose_52 : decode y_Pe_choose.2.1 52 = .ok (.iconst 0, 1) := by decide +kernel
theorem d_Pe_choose_53 : decode y_Pe_choose.2.1 53 = .ok (.iastore, 1) := by decide +kernel
theorem d_Pe_choose_54 : decode y_Pe_choose.2.1 54 = .ok (.aload_n 0, 1) := by decide +kernel
theorem d_Pe_choose_55 : decode y_Pe_choose.2.1 55 = .ok (.getfield 15, 3) := by decide +kernel
theorem d_Pe_choose_58 : decode y_Pe_choose.2.1 58 = .ok (.iload 4, 2) := by decide +kernel
theorem d_Pe_choose_60 : decode y_Pe_choose.2.1 60 = .ok (.iload_n 2, 1) := by decide +kernel
theorem d_Pe_choose_61 : decode y_Pe_choose.2.1 61 = .ok (.iconst 1, 1) := by decide +kernel
theorem d_Pe_choose_62 : decode y_Pe_choose.2.1 62 = .ok (.iadd, 1) := by decide +kernel
theorem d_Pe_choose_63 : decode y_Pe_choose.2.1 63 = .ok (.iastore, 1) := by decide +kernel
theorem d_Pe_choose_64 : decode y_Pe_choose.2.1 64 = .ok (.aload_n 0, 1) := by decide +kernel
theorem d_Pe_choose_65 : decode y_Pe_choose.2.1 65 = .ok (.getfield 18, 3) := by decide +kernel
theorem d_Pe_choose_68 : decode y_Pe_choose.2.1 68 = .ok (.iload 4, 2) := by decide +kernel
theorem d_Pe_choose_70 : decode y_Pe_choose.2.1 70 = .ok (.iconst 0, 1) := by decide +kernel
theorem d_Pe_choose_71 : decode y_Pe_choose.2.1 71 = .ok (.iastore, 1) := by decide +kernel
theorem d_Pe_choose_72 : decode y_Pe_choose.2.1 72 = .ok (.aload_n 0, 1) := by decide +kernel
theorem d_Pe_choose_73 : decode y_Pe_choose.2.1 73 = .ok (.iload 4, 2) := by decide +kernel
theorem d_Pe_choose_75 : decode y_Pe_choose.2.1 75 = .ok (.iload_n 1, 1) := by decide +kernel
theorem d_Pe_choose_76 : decode y_Pe_choose.2.1 76 = .ok (.iload_n 2, 1) := by decide +kernel
theorem d_Pe_choose_77 : decode y_Pe_choose.2.1 77 = .ok (.iconst 1, 1) := by decide +kernel
theorem d_Pe_choose_78 : decode y_Pe_choose.2.1 78 = .ok (.iadd, 1) := by decide +kernel
theorem d_Pe_choose_79 : decode y_Pe_choose.2.1 79 = .ok (.iconst 1, 1) := by decide +kernel
theorem d_Pe_choose_80 : decode y_Pe_choose.2.1 80 = .ok (.invokevirtual 74, 3) := by decide +kernel
theorem d_Pe_choose_83 : decode y_Pe_choose.2.1 83 = .ok (.iconst 0, 1) := by decide +kernel
theorem d_Pe_choose_84 : decode y_Pe_choose.2.1 84 = .ok (.istore 5, 2) := by decide +kernel
theorem d_Pe_choose_86 : decode y_Pe_choose.2.1 86 = .ok (.iload 5, 2) := by decide +kernel
theorem d_Pe_choose_88 : decode y_Pe_choose.2.1 88 = .ok (.aload_n 0, 1) := by decide +kernel
theorem d_Pe_choose_89 : decode y_Pe_choose.2.1 89 = .ok (.getfield 21, 3) := by decide +kernel
theorem d_Pe_choose_92 : decode y_Pe_choose.2.1 92 = .ok (.getfield 78, 3) := by decide +kernel
theorem d_Pe_choose_95 : decode y_Pe_choose.2.1 95 = .ok (.invokevirtual 39, 3) := by decide +kernel
theorem d_Pe_choose_98 : decode y_Pe_choose.2.1 98 = .ok (.if_icmp .ge 49, 3) := by decide +kernel
theorem d_Pe_choose_101 : decode y_Pe_choose.2.1 101 = .ok (.aload_n 0, 1) := by decide +kernel
theorem d_Pe_choose_102 : decode y_Pe_choose.2.1 102 = .ok (.getfield 21, 3) := by decide +kernel
theorem d_Pe_choose_105 : decode y_Pe_choose.2.1 105 = .ok (.iload 5, 2) := by decide +kernel
theorem d_Pe_choose_107 : decode y_Pe_choose.2.1 107 = .ok (.iload_n 1, 1) := by decide +kernel
theorem d_Pe_choose_108 : decode y_Pe_choose.2.1 108 = .ok (.invokevirtual 63, 3) := by decide +kernel
theorem d_Pe_choose_111 : decode y_Pe_choose.2.1 111 = .ok (.istore 6, 2) := by decide +kernel
theorem d_Pe_choose_113 : decode y_Pe_choose.2.1 113 = .ok (.iload 6, 2) := by decide +kernel
theorem d_Pe_choose_115 : decode y_Pe_choose.2.1 115 = .ok (.iconst (-1), 1) := by decide +kernel
theorem d_Pe_choose_116 : decode y_Pe_choose.2.1 116 = .ok (.if_icmp .eq 25, 3) := by decide +kernel
theorem d_Pe_choose_119 : decode y_Pe_choose.2.1 119 = .ok (.aload_n 0, 1) := by decide +kernel
theorem d_Pe_choose_120 : decode y_Pe_choose.2.1 120 = .ok (.iload 4, 2) := by decide +kernel
theorem d_Pe_choose_122 : decode y_Pe_choose.2.1 122 = .ok (.iload 6, 2) := by decide +kernel
theorem d_Pe_choose_124 : decode y_Pe_choose.2.1 124 = .ok (.iload_n 2, 1) := by decide +kernel
theorem d_Pe_choose_125 : decode y_Pe_choose.2.1 125 = .ok (.aload_n 0, 1) := by decide +kernel
theorem d_Pe_choose_126 : decode y_Pe_choose.2.1 126 = .ok (.iconst 2, 1) := by decide +kernel
theorem d_Pe_choose_127 : decode y_Pe_choose.2.1 127 = .ok (.iload 5, 2) := by decide +kernel
theorem d_Pe_choose_129 : decode y_Pe_choose.2.1 129 = .ok (.iadd, 1) := by decide +kernel
theorem d_Pe_choose_130 : decode y_Pe_choose.2.1 130 = .ok (.invokevirtual 59, 3) := by decide +kernel
theorem d_Pe_choose_133 : decode y_Pe_choose.2.1 133 = .ok (.iadd, 1) := by decide +kernel
theorem d_Pe_choose_134 : decode y_Pe_choose.2.1 134 = .ok (.iconst 2, 1) := by decide +kernel
theorem d_Pe_choose_135 : decode y_Pe_choose.2.1 135 = .ok (.iload 5, 2) := by decide +kernel
theorem d_Pe_choose_137 : decode y_Pe_choose.2.1 137 = .ok (.iadd, 1) := by decide +kernel
theorem d_Pe_choose_138 : decode y_Pe_choose.2.1 138 = .ok (.invokevirtual 74, 3) := by decide +kernel
theorem d_Pe_choose_141 : decode y_Pe_choose.2.1 141 = .ok (.iinc 5 1, 3) := by decide +kernel
theorem d_Pe_choose_144 : decode y_Pe_choose.2.1 144 = .ok (.goto (-58), 3) := by decide +kernel
theorem d_Pe_choose_147 : decode y_Pe_choose.2.1 147 = .ok (.aload_n 0, 1) := by decide +kernel
theorem d_Pe_choose_148 : decode y_Pe_choose.2.1 148 = .ok (.getfield 9, 3) := by decide +kernel
theorem d_Pe_choose_151 : decode y_Pe_choose.2.1 151 = .ok (.iload 4, 2) := by decide +kernel
theorem d_Pe_choose_153 : decode y_Pe_choose.2.1 153 = .ok (.iaload, 1) := by decide +kernel
theorem d_Pe_choose_154 : decode y_Pe_choose.2.1 154 = .ok (.iconst (-1), 1) := by decide +kernel
theorem d_Pe_choose_155 : decode y_Pe_choose.2.1 155 = .ok (.if_icmp .eq 22, 3) := by decide +kernel
theorem d_Pe_choose_158 : decode y_Pe_choose.2.1 158 = .ok (.aload_n 0, 1) := by decide +kernel
theorem d_Pe_choose_159 : decode y_Pe_choose.2.1 159 = .ok (.getfield 9, 3) := by decide +kernel
theorem d_Pe_choose_162 : decode y_Pe_choose.2.1 162 = .ok (.iload 4, 2) := by decide +kernel
theorem d_Pe_choose_164 : decode y_Pe_choose.2.1 164 = .ok (.dup2, 1) := by decide +kernel
theorem d_Pe_choose_165 : decode y_Pe_choose.2.1 165 = .ok (.iaload, 1) := by decide +kernel
theorem d_Pe_choose_166 : decode y_Pe_choose.2.1 166 = .ok (.aload_n 0, 1) := by decide +kernel
theorem d_Pe_choose_167 : decode y_Pe_choose.2.1 167 = .ok (.getfield 25, 3) := by decide +kernel
theorem d_Pe_choose_170 : decode y_Pe_choose.2.1 170 = .ok (.iload_n 1, 1) := by decide +kernel
theorem d_Pe_choose_171 : decode y_Pe_choose.2.1 171 = .ok (.iload_n 2, 1) := by decide +kernel
theorem d_Pe_choose_172 : decode y_Pe_choose.2.1 172 = .ok (.invokevirtual 81, 3) := by decide +kernel
theorem d_Pe_choose_175 : decode y_Pe_choose.2.1 175 = .ok (.iadd, 1) := by decide +kernel
theorem d_Pe_choose_176 : decode y_Pe_choose.2.1 176 = .ok (.iastore, 1) := by decide +kernel
theorem d_Pe_choose_177 : decode y_Pe_choose.2.1 177 = .ok (.return_, 1) := by decide +kernel
theorem d_Pe_tryDeed_0 : decode y_Pe_tryDeed.2.1 0 = .ok (.iload_n 2, 1) := by decide +kernel
theorem d_Pe_tryDeed_1 : decode y_Pe_tryDeed.2.1 1 = .ok (.iload_n 3, 1) := by decide +kernel
theorem d_Pe_tryDeed_2 : decode y_Pe_tryDeed.2.1 2 = .ok (.invokestatic 48, 3) := by decide +kernel
theorem d_Pe_tryDeed_5 : decode y_Pe_tryDeed.2.1 5 = .ok (.ifCond .ne 4, 3) := by decide +kernel
theorem d_Pe_tryDeed_8 : decode y_Pe_tryDeed.2.1 8 = .ok (.return_, 1) := by decide +kernel
theorem d_Pe_tryDeed_9 : decode y_Pe_tryDeed.2.1 9 = .ok (.iload_n 2, 1) := by decide +kernel
theorem d_Pe_tryDeed_10 : decode y_Pe_tryDeed.2.1 10 = .ok (.iload_n 3, 1) := by decide +kernel
theorem d_Pe_tryDeed_11 : decode y_Pe_tryDeed.2.1 11 = .ok (.invokestatic 52, 3) := by decide +kernel
theorem d_Pe_tryDeed_14 : decode y_Pe_tryDeed.2.1 14 = .ok (.istore 5, 2) := by decide +kernel
theorem d_Pe_tryDeed_16 : decode y_Pe_tryDeed.2.1 16 = .ok (.aload_n 0, 1) := by decide +kernel
theorem d_Pe_tryDeed_17 : decode y_Pe_tryDeed.2.1 17 = .ok (.getfield 9, 3) := by decide +kernel
theorem d_Pe_tryDeed_20 : decode y_Pe_tryDeed.2.1 20 = .ok (.iload_n 1, 1) := by decide +kernel
theorem d_Pe_tryDeed_21 : decode y_Pe_tryDeed.2.1 21 = .ok (.iaload, 1) := by decide +kernel
theorem d_Pe_tryDeed_22 : decode y_Pe_tryDeed.2.1 22 = .ok (.iconst (-1), 1) := by decide +kernel
theorem d_Pe_tryDeed_23 : decode y_Pe_tryDeed.2.1 23 = .ok (.if_icmp .eq 51, 3) := by decide +kernel
theorem d_Pe_tryDeed_26 : decode y_Pe_tryDeed.2.1 26 = .ok (.aload_n 0, 1) := by decide +kernel
theorem d_Pe_tryDeed_27 : decode y_Pe_tryDeed.2.1 27 = .ok (.getfield 9, 3) := by decide +kernel
theorem d_Pe_tryDeed_30 : decode y_Pe_tryDeed.2.1 30 = .ok (.iload 5, 2) := by decide +kernel
theorem d_Pe_tryDeed_32 : decode y_Pe_tryDeed.2.1 32 = .ok (.iaload, 1) := by decide +kernel
theorem d_Pe_tryDeed_33 : decode y_Pe_tryDeed.2.1 33 = .ok (.aload_n 0, 1) := by decide +kernel
theorem d_Pe_tryDeed_34 : decode y_Pe_tryDeed.2.1 34 = .ok (.getfield 9, 3) := by decide +kernel
theorem d_Pe_tryDeed_37 : decode y_Pe_tryDeed.2.1 37 = .ok (.iload_n 1, 1) := by decide +kernel
theorem d_Pe_tryDeed_38 : decode y_Pe_tryDeed.2.1 38 = .ok (.iaload, 1) := by decide +kernel
theorem d_Pe_tryDeed_39 : decode y_Pe_tryDeed.2.1 39 = .ok (.if_icmp .lt 35, 3) := by decide +kernel
theorem d_Pe_tryDeed_42 : decode y_Pe_tryDeed.2.1 42 = .ok (.aload_n 0, 1) := by decide +kernel
theorem d_Pe_tryDeed_43 : decode y_Pe_tryDeed.2.1 43 = .ok (.getfield 9, 3) := by decide +kernel
theorem d_Pe_tryDeed_46 : decode y_Pe_tryDeed.2.1 46 = .ok (.iload 5, 2) := by decide +kernel
theorem d_Pe_tryDeed_48 : decode y_Pe_tryDeed.2.1 48 = .ok (.iaload, 1) := by decide +kernel
theorem d_Pe_tryDeed_49 : decode y_Pe_tryDeed.2.1 49 = .ok (.aload_n 0, 1) := by decide +kernel
theorem d_Pe_tryDeed_50 : decode y_Pe_tryDeed.2.1 50 = .ok (.getfield 9, 3) := by decide +kernel
theorem d_Pe_tryDeed_53 : decode y_Pe_tryDeed.2.1 53 = .ok (.iload_n 1, 1) := by decide +kernel
theorem d_Pe_tryDeed_54 : decode y_Pe_tryDeed.2.1 54 = .ok (.iaload, 1) := by decide +kernel
theorem d_Pe_tryDeed_55 : decode y_Pe_tryDeed.2.1 55 = .ok (.if_icmp .ne 23, 3) := by decide +kernel
theorem d_Pe_tryDeed_58 : decode y_Pe_tryDeed.2.1 58 = .ok (.aload_n 0, 1) := by decide +kernel
theorem d_Pe_tryDeed_59 : decode y_Pe_tryDeed.2.1 59 = .ok (.getfield 15, 3) := by decide +kernel
theorem d_Pe_tryDeed_62 : decode y_Pe_tryDeed.2.1 62 = .ok (.iload 5, 2) := by decide +kernel
theorem d_Pe_tryDeed_64 : decode y_Pe_tryDeed.2.1 64 = .ok (.iaload, 1) := by decide +kernel
theorem d_Pe_tryDeed_65 : decode y_Pe_tryDeed.2.1 65 = .ok (.aload_n 0, 1) := by decide +kernel
theorem d_Pe_tryDeed_66 : decode y_Pe_tryDeed.2.1 66 = .ok (.getfield 15, 3) := by decide +kernel
theorem d_Pe_tryDeed_69 : decode y_Pe_tryDeed.2.1 69 = .ok (.iload_n 1, 1) := by decide +kernel
theorem d_Pe_tryDeed_70 : decode y_Pe_tryDeed.2.1 70 = .ok (.iaload, 1) := by decide +kernel
theorem d_Pe_tryDeed_71 : decode y_Pe_tryDeed.2.1 71 = .ok (.if_icmp .ge 7, 3) := by decide +kernel
theorem d_Pe_tryDeed_74 : decode y_Pe_tryDeed.2.1 74 = .ok (.iconst 1, 1) := by decide +kernel
theorem d_Pe_tryDeed_75 : decode y_Pe_tryDeed.2.1 75 = .ok (.goto 4, 3) := by decide +kernel
theorem d_Pe_tryDeed_78 : decode y_Pe_tryDeed.2.1 78 = .ok (.iconst 0, 1) := by decide +kernel
theorem d_Pe_tryDeed_79 : decode y_Pe_tryDeed.2.1 79 = .ok (.istore 6, 2) := by decide +kernel
theorem d_Pe_tryDeed_81 : decode y_Pe_tryDeed.2.1 81 = .ok (.aload_n 0, 1) := by decide +kernel
theorem d_Pe_tryDeed_82 : decode y_Pe_tryDeed.2.1 82 = .ok (.getfield 9, 3) := by decide +kernel
theorem d_Pe_tryDeed_85 : decode y_Pe_tryDeed.2.1 85 = .ok (.iload 5, 2) := by decide +kernel
theorem d_Pe_tryDeed_87 : decode y_Pe_tryDeed.2.1 87 = .ok (.iaload, 1) := by decide +kernel
theorem d_Pe_tryDeed_88 : decode y_Pe_tryDeed.2.1 88 = .ok (.iconst (-1), 1) := by decide +kernel
theorem d_Pe_tryDeed_89 : decode y_Pe_tryDeed.2.1 89 = .ok (.if_icmp .eq 42, 3) := by decide +kernel
theorem d_Pe_tryDeed_92 : decode y_Pe_tryDeed.2.1 92 = .ok (.iload 6, 2) := by decide +kernel
theorem d_Pe_tryDeed_94 : decode y_Pe_tryDeed.2.1 94 = .ok (.ifCond .eq 37, 3) := by decide +kernel
theorem d_Pe_tryDeed_97 : decode y_Pe_tryDeed.2.1 97 = .ok (.aload_n 0, 1) := by decide +kernel
theorem d_Pe_tryDeed_98 : decode y_Pe_tryDeed.2.1 98 = .ok (.getfield 9, 3) := by decide +kernel
theorem d_Pe_tryDeed_101 : decode y_Pe_tryDeed.2.1 101 = .ok (.iload_n 1, 1) := by decide +kernel
theorem d_Pe_tryDeed_102 : decode y_Pe_tryDeed.2.1 102 = .ok (.aload_n 0, 1) := by decide +kernel
theorem d_Pe_tryDeed_103 : decode y_Pe_tryDeed.2.1 103 = .ok (.getfield 9, 3) := by decide +kernel
theorem d_Pe_tryDeed_106 : decode y_Pe_tryDeed.2.1 106 = .ok (.iload 5, 2) := by decide +kernel
theorem d_Pe_tryDeed_108 : decode y_Pe_tryDeed.2.1 108 = .ok (.iaload, 1) := by decide +kernel
theorem d_Pe_tryDeed_109 : decode y_Pe_tryDeed.2.1 109 = .ok (.iastore, 1) := by decide +kernel
theorem d_Pe_tryDeed_110 : decode y_Pe_tryDeed.2.1 110 = .ok (.aload_n 0, 1) := by decide +kernel
theorem d_Pe_tryDeed_111 : decode y_Pe_tryDeed.2.1 111 = .ok (.getfield 15, 3) := by decide +kernel
theorem d_Pe_tryDeed_114 : decode y_Pe_tryDeed.2.1 114 = .ok (.iload_n 1, 1) := by decide +kernel
theorem d_Pe_tryDeed_115 : decode y_Pe_tryDeed.2.1 115 = .ok (.aload_n 0, 1) := by decide +kernel
theorem d_Pe_tryDeed_116 : decode y_Pe_tryDeed.2.1 116 = .ok (.getfield 15, 3) := by decide +kernel
theorem d_Pe_tryDeed_119 : decode y_Pe_tryDeed.2.1 119 = .ok (.iload 5, 2) := by decide +kernel
theorem d_Pe_tryDeed_121 : decode y_Pe_tryDeed.2.1 121 = .ok (.iaload, 1) := by decide +kernel
theorem d_Pe_tryDeed_122 : decode y_Pe_tryDeed.2.1 122 = .ok (.iastore, 1) := by decide +kernel
theorem d_Pe_tryDeed_123 : decode y_Pe_tryDeed.2.1 123 = .ok (.aload_n 0, 1) := by decide +kernel
theorem d_Pe_tryDeed_124 : decode y_Pe_tryDeed.2.1 124 = .ok (.getfield 18, 3) := by decide +kernel
theorem d_Pe_tryDeed_127 : decode y_Pe_tryDeed.2.1 127 = .ok (.iload_n 1, 1) := by decide +kernel
theorem d_Pe_tryDeed_128 : decode y_Pe_tryDeed.2.1 128 = .ok (.iload 4, 2) := by decide +kernel
theorem d_Pe_tryDeed_130 : decode y_Pe_tryDeed.2.1 130 = .ok (.iastore, 1) := by decide +kernel
theorem d_Pe_tryDeed_131 : decode y_Pe_tryDeed.2.1 131 = .ok (.return_, 1) := by decide +kernel
theorem d_Pe_takes_0 : decode y_Pe_takes.2.1 0 = .ok (.iload_n 1, 1) := by decide +kernel
theorem d_Pe_takes_1 : decode y_Pe_takes.2.1 1 = .ok (.iconst 1, 1) := by decide +kernel
theorem d_Pe_takes_2 : decode y_Pe_takes.2.1 2 = .ok (.if_icmp .ne 7, 3) := by decide +kernel
theorem d_Pe_takes_5 : decode y_Pe_takes.2.1 5 = .ok (.iconst 1, 1) := by decide +kernel
theorem d_Pe_takes_6 : decode y_Pe_takes.2.1 6 = .ok (.goto 25, 3) := by decide +kernel
theorem d_Pe_takes_9 : decode y_Pe_takes.2.1 9 = .ok (.aload_n 0, 1) := by decide +kernel
theorem d_Pe_takes_10 : decode y_Pe_takes.2.1 10 = .ok (.getfield 21, 3) := by decide +kernel
theorem d_Pe_takes_13 : decode y_Pe_takes.2.1 13 = .ok (.getfield 78, 3) := by decide +kernel
theorem d_Pe_takes_16 : decode y_Pe_takes.2.1 16 = .ok (.iload_n 1, 1) := by decide +kernel
theorem d_Pe_takes_17 : decode y_Pe_takes.2.1 17 = .ok (.iconst 2, 1) := by decide +kernel
theorem d_Pe_takes_18 : decode y_Pe_takes.2.1 18 = .ok (.isub, 1) := by decide +kernel
theorem d_Pe_takes_19 : decode y_Pe_takes.2.1 19 = .ok (.iconst 2, 1) := by decide +kernel
theorem d_Pe_takes_20 : decode y_Pe_takes.2.1 20 = .ok (.invokevirtual 84, 3) := by decide +kernel
theorem d_Pe_takes_23 : decode y_Pe_takes.2.1 23 = .ok (.aload_n 0, 1) := by decide +kernel
theorem d_Pe_takes_24 : decode y_Pe_takes.2.1 24 = .ok (.getfield 21, 3) := by decide +kernel
theorem d_Pe_takes_27 : decode y_Pe_takes.2.1 27 = .ok (.invokevirtual 87, 3) := by decide +kernel
theorem d_Pe_takes_30 : decode y_Pe_takes.2.1 30 = .ok (.imul, 1) := by decide +kernel
theorem d_Pe_takes_31 : decode y_Pe_takes.2.1 31 = .ok (.ireturn, 1) := by decide +kernel
theorem d_Ro_init_0 : decode y_Ro_init.2.1 0 = .ok (.aload_n 0, 1) := by decide +kernel
theorem d_Ro_init_1 : decode y_Ro_init.2.1 1 = .ok (.invokespecial 3, 3) := by decide +kernel
theorem d_Ro_init_4 : decode y_Ro_init.2.1 4 = .ok (.aload_n 0, 1) := by decide +kernel
theorem d_Ro_init_5 : decode y_Ro_init.2.1 5 = .ok (.bipush 120, 2) := by decide +kernel
theorem d_Ro_init_7 : decode y_Ro_init.2.1 7 = .ok (.newarray .long, 2) := by decide +kernel
theorem d_Ro_init_9 : decode y_Ro_init.2.1 9 = .ok (.putfield 9, 3) := by decide +kernel
theorem d_Ro_init_12 : decode y_Ro_init.2.1 12 = .ok (.aload_n 0, 1) := by decide +kernel
theorem d_Ro_init_13 : decode y_Ro_init.2.1 13 = .ok (.iconst 4, 1) := by decide +kernel
theorem d_Ro_init_14 : decode y_Ro_init.2.1 14 = .ok (.newarray .int, 2) := by decide +kernel
theorem d_Ro_init_16 : decode y_Ro_init.2.1 16 = .ok (.putfield 15, 3) := by decide +kernel
theorem d_Ro_init_19 : decode y_Ro_init.2.1 19 = .ok (.aload_n 0, 1) := by decide +kernel
theorem d_Ro_init_20 : decode y_Ro_init.2.1 20 = .ok (.iconst 4, 1) := by decide +kernel
theorem d_Ro_init_21 : decode y_Ro_init.2.1 21 = .ok (.newarray .int, 2) := by decide +kernel
theorem d_Ro_init_23 : decode y_Ro_init.2.1 23 = .ok (.putfield 19, 3) := by decide +kernel
theorem d_Ro_init_26 : decode y_Ro_init.2.1 26 = .ok (.return_, 1) := by decide +kernel
theorem d_Ro_start_0 : decode y_Ro_start.2.1 0 = .ok (.iload_n 1, 1) := by decide +kernel
theorem d_Ro_start_1 : decode y_Ro_start.2.1 1 = .ok (.ifCond .lt 8, 3) := by decide +kernel
theorem d_Ro_start_4 : decode y_Ro_start.2.1 4 = .ok (.iload_n 1, 1) := by decide +kernel
theorem d_Ro_start_5 : decode y_Ro_start.2.1 5 = .ok (.iconst 4, 1) := by decide +kernel
theorem d_Ro_start_6 : decode y_Ro_start.2.1 6 = .ok (.if_icmp .lt 4, 3) := by decide +kernel
theorem d_Ro_start_9 : decode y_Ro_start.2.1 9 = .ok (.return_, 1) := by decide +kernel
theorem d_Ro_start_10 : decode y_Ro_start.2.1 10 = .ok (.aload_n 0, 1) := by decide +kernel
theorem d_Ro_start_11 : decode y_Ro_start.2.1 11 = .ok (.dup, 1) := by decide +kernel
theorem d_Ro_start_12 : decode y_Ro_start.2.1 12 = .ok (.getfield 22, 3) := by decide +kernel
theorem d_Ro_start_15 : decode y_Ro_start.2.1 15 = .ok (.iconst 1, 1) := by decide +kernel
theorem d_Ro_start_16 : decode y_Ro_start.2.1 16 = .ok (.iload_n 1, 1) := by decide +kernel
theorem d_Ro_start_17 : decode y_Ro_start.2.1 17 = .ok (.ishl, 1) := by decide +kernel
theorem d_Ro_start_18 : decode y_Ro_start.2.1 18 = .ok (.ior, 1) := by decide +kernel
theorem d_Ro_start_19 : decode y_Ro_start.2.1 19 = .ok (.putfield 22, 3) := by decide +kernel
theorem d_Ro_start_22 : decode y_Ro_start.2.1 22 = .ok (.aload_n 0, 1) := by decide +kernel
theorem d_Ro_start_23 : decode y_Ro_start.2.1 23 = .ok (.getfield 15, 3) := by decide +kernel
theorem d_Ro_start_26 : decode y_Ro_start.2.1 26 = .ok (.iload_n 1, 1) := by decide +kernel
theorem d_Ro_start_27 : decode y_Ro_start.2.1 27 = .ok (.iload_n 2, 1) := by decide +kernel
theorem d_Ro_start_28 : decode y_Ro_start.2.1 28 = .ok (.iastore, 1) := by decide +kernel
theorem d_Ro_start_29 : decode y_Ro_start.2.1 29 = .ok (.aload_n 0, 1) := by decide +kernel
theorem d_Ro_start_30 : decode y_Ro_start.2.1 30 = .ok (.getfield 19, 3) := by decide +kernel
theorem d_Ro_start_33 : decode y_Ro_start.2.1 33 = .ok (.iload_n 1, 1) := by decide +kernel
theorem d_Ro_start_34 : decode y_Ro_start.2.1 34 = .ok (.iconst 0, 1) := by decide +kernel
theorem d_Ro_start_35 : decode y_Ro_start.2.1 35 = .ok (.iload_n 3, 1) := by decide +kernel
theorem d_Ro_start_36 : decode y_Ro_start.2.1 36 = .ok (.bipush 30, 2) := by decide +kernel
theorem d_Ro_start_38 : decode y_Ro_start.2.1 38 = .ok (.invokestatic 26, 3) := by decide +kernel
theorem d_Ro_start_41 : decode y_Ro_start.2.1 41 = .ok (.invokestatic 32, 3) := by decide +kernel
theorem d_Ro_start_44 : decode y_Ro_start.2.1 44 = .ok (.iastore, 1) := by decide +kernel
theorem d_Ro_start_45 : decode y_Ro_start.2.1 45 = .ok (.iconst 0, 1) := by decide +kernel
theorem d_Ro_start_46 : decode y_Ro_start.2.1 46 = .ok (.istore 4, 2) := by decide +kernel
theorem d_Ro_start_48 : decode y_Ro_start.2.1 48 = .ok (.iload 4, 2) := by decide +kernel
theorem d_Ro_start_50 : decode y_Ro_start.2.1 50 = .ok (.bipush 30, 2) := by decide +kernel
theorem d_Ro_start_52 : decode y_Ro_start.2.1 52 = .ok (.if_icmp .ge 22, 3) := by decide +kernel
theorem d_Ro_start_55 : decode y_Ro_start.2.1 55 = .ok (.aload_n 0, 1) := by decide +kernel
theorem d_Ro_start_56 : decode y_Ro_start.2.1 56 = .ok (.getfield 9, 3) := by decide +kernel
theorem d_Ro_start_59 : decode y_Ro_start.2.1 59 = .ok (.iload_n 1, 1) := by decide +kernel
theorem d_Ro_start_60 : decode y_Ro_start.2.1 60 = .ok (.bipush 30, 2) := by decide +kernel
theorem d_Ro_start_62 : decode y_Ro_start.2.1 62 = .ok (.imul, 1) := by decide +kernel
theorem d_Ro_start_63 : decode y_Ro_start.2.1 63 = .ok (.iload 4, 2) := by decide +kernel
theorem d_Ro_start_65 : decode y_Ro_start.2.1 65 = .ok (.iadd, 1) := by decide +kernel
theorem d_Ro_start_66 : decode y_Ro_start.2.1 66 = .ok (.lconst 0, 1) := by decide +kernel
theorem d_Ro_start_67 : decode y_Ro_start.2.1 67 = .ok (.lastore, 1) := by decide +kernel
theorem d_Ro_start_68 : decode y_Ro_start.2.1 68 = .ok (.iinc 4 1, 3) := by decide +kernel
theorem d_Ro_start_71 : decode y_Ro_start.2.1 71 = .ok (.goto (-23), 3) := by decide +kernel
theorem d_Ro_start_74 : decode y_Ro_start.2.1 74 = .ok (.return_, 1) := by decide +kernel
theorem d_Ro_isMissing_0 : decode y_Ro_isMissing.2.1 0 = .ok (.aload_n 0, 1) := by decide +kernel
theorem d_Ro_isMissing_1 : decode y_Ro_isMissing.2.1 1 = .ok (.getfield 22, 3) := by decide +kernel
theorem d_Ro_isMissing_4 : decode y_Ro_isMissing.2.1 4 = .ok (.iload_n 1, 1) := by decide +kernel
theorem d_Ro_isMissing_5 : decode y_Ro_isMissing.2.1 5 = .ok (.ishr, 1) := by decide +kernel
theorem d_Ro_isMissing_6 : decode y_Ro_isMissing.2.1 6 = .ok (.iconst 1, 1) := by decide +kernel
theorem d_Ro_isMissing_7 : decode y_Ro_isMissing.2.1 7 = .ok (.iand, 1) := by decide +kernel
theorem d_Ro_isMissing_8 : decode y_Ro_isMissing.2.1 8 = .ok (.ifCond .ne 7, 3) := by decide +kernel
theorem d_Ro_isMissing_11 : decode y_Ro_isMissing.2.1 11 = .ok (.iconst 1, 1) := by decide +kernel
theorem d_Ro_isMissing_12 : decode y_Ro_isMissing.2.1 12 = .ok (.goto 4, 3) := by decide +kernel
theorem d_Ro_isMissing_15 : decode y_Ro_isMissing.2.1 15 = .ok (.iconst 0, 1) := by decide +kernel
theorem d_Ro_isMissing_16 : decode y_Ro_isMissing.2.1 16 = .ok (.ireturn, 1) := by decide +kernel
theorem d_Ro_lengthOf_0 : decode y_Ro_lengthOf.2.1 0 = .ok (.iload_n 1, 1) := by decide +kernel
theorem d_Ro_lengthOf_1 : decode y_Ro_lengthOf.2.1 1 = .ok (.ifCond .lt 17, 3) := by decide +kernel
theorem d_Ro_lengthOf_4 : decode y_Ro_lengthOf.2.1 4 = .ok (.iload_n 1, 1) := by decide +kernel
theorem d_Ro_lengthOf_5 : decode y_Ro_lengthOf.2.1 5 = .ok (.iconst 4, 1) := by decide +kernel
theorem d_Ro_lengthOf_6 : decode y_Ro_lengthOf.2.1 6 = .ok (.if_icmp .ge 12, 3) := by decide +kernel
theorem d_Ro_lengthOf_9 : decode y_Ro_lengthOf.2.1 9 = .ok (.aload_n 0, 1) := by decide +kernel
theorem d_Ro_lengthOf_10 : decode y_Ro_lengthOf.2.1 10 = .ok (.getfield 19, 3) := by decide +kernel
theorem d_Ro_lengthOf_13 : decode y_Ro_lengthOf.2.1 13 = .ok (.iload_n 1, 1) := by decide +kernel
theorem d_Ro_lengthOf_14 : decode y_Ro_lengthOf.2.1 14 = .ok (.iaload, 1) := by decide +kernel
theorem d_Ro_lengthOf_15 : decode y_Ro_lengthOf.2.1 15 = .ok (.goto 4, 3) := by decide +kernel
theorem d_Ro_lengthOf_18 : decode y_Ro_lengthOf.2.1 18 = .ok (.iconst 0, 1) := by decide +kernel
theorem d_Ro_lengthOf_19 : decode y_Ro_lengthOf.2.1 19 = .ok (.ireturn, 1) := by decide +kernel
theorem d_Ro_at_0 : decode y_Ro_at.2.1 0 = .ok (.iload_n 2, 1) := by decide +kernel
theorem d_Ro_at_1 : decode y_Ro_at.2.1 1 = .ok (.ifCond .lt 26, 3) := by decide +kernel
theorem d_Ro_at_4 : decode y_Ro_at.2.1 4 = .ok (.iload_n 2, 1) := by decide +kernel
theorem d_Ro_at_5 : decode y_Ro_at.2.1 5 = .ok (.aload_n 0, 1) := by decide +kernel
theorem d_Ro_at_6 : decode y_Ro_at.2.1 6 = .ok (.iload_n 1, 1) := by decide +kernel
theorem d_Ro_at_7 : decode y_Ro_at.2.1 7 = .ok (.invokevirtual 35, 3) := by decide +kernel
theorem d_Ro_at_10 : decode y_Ro_at.2.1 10 = .ok (.if_icmp .ge 17, 3) := by decide +kernel
theorem d_Ro_at_13 : decode y_Ro_at.2.1 13 = .ok (.aload_n 0, 1) := by decide +kernel
theorem d_Ro_at_14 : decode y_Ro_at.2.1 14 = .ok (.getfield 9, 3) := by decide +kernel
theorem d_Ro_at_17 : decode y_Ro_at.2.1 17 = .ok (.iload_n 1, 1) := by decide +kernel
theorem d_Ro_at_18 : decode y_Ro_at.2.1 18 = .ok (.bipush 30, 2) := by decide +kernel
theorem d_Ro_at_20 : decode y_Ro_at.2.1 20 = .ok (.imul, 1) := by decide +kernel
theorem d_Ro_at_21 : decode y_Ro_at.2.1 21 = .ok (.iload_n 2, 1) := by decide +kernel
theorem d_Ro_at_22 : decode y_Ro_at.2.1 22 = .ok (.iadd, 1) := by decide +kernel
theorem d_Ro_at_23 : decode y_Ro_at.2.1 23 = .ok (.laload, 1) := by decide +kernel
theorem d_Ro_at_24 : decode y_Ro_at.2.1 24 = .ok (.goto 4, 3) := by decide +kernel
theorem d_Ro_at_27 : decode y_Ro_at.2.1 27 = .ok (.lconst 0, 1) := by decide +kernel
theorem d_Ro_at_28 : decode y_Ro_at.2.1 28 = .ok (.lreturn, 1) := by decide +kernel
theorem d_Ro_put_0 : decode y_Ro_put.2.1 0 = .ok (.iload_n 2, 1) := by decide +kernel
theorem d_Ro_put_1 : decode y_Ro_put.2.1 1 = .ok (.ifCond .lt 12, 3) := by decide +kernel
theorem d_Ro_put_4 : decode y_Ro_put.2.1 4 = .ok (.iload_n 2, 1) := by decide +kernel
theorem d_Ro_put_5 : decode y_Ro_put.2.1 5 = .ok (.aload_n 0, 1) := by decide +kernel
theorem d_Ro_put_6 : decode y_Ro_put.2.1 6 = .ok (.iload_n 1, 1) := by decide +kernel
theorem d_Ro_put_7 : decode y_Ro_put.2.1 7 = .ok (.invokevirtual 35, 3) := by decide +kernel
theorem d_Ro_put_10 : decode y_Ro_put.2.1 10 = .ok (.if_icmp .lt 5, 3) := by decide +kernel
theorem d_Ro_put_13 : decode y_Ro_put.2.1 13 = .ok (.lconst 0, 1) := by decide +kernel
theorem d_Ro_put_14 : decode y_Ro_put.2.1 14 = .ok (.lreturn, 1) := by decide +kernel
theorem d_Ro_put_15 : decode y_Ro_put.2.1 15 = .ok (.aload_n 0, 1) := by decide +kernel
theorem d_Ro_put_16 : decode y_Ro_put.2.1 16 = .ok (.getfield 15, 3) := by decide +kernel
theorem d_Ro_put_19 : decode y_Ro_put.2.1 19 = .ok (.iload_n 1, 1) := by decide +kernel
theorem d_Ro_put_20 : decode y_Ro_put.2.1 20 = .ok (.iaload, 1) := by decide +kernel
theorem d_Ro_put_21 : decode y_Ro_put.2.1 21 = .ok (.lload_n 3, 1) := by decide +kernel
theorem d_Ro_put_22 : decode y_Ro_put.2.1 22 = .ok (.invokestatic 39, 3) := by decide +kernel
theorem d_Ro_put_25 : decode y_Ro_put.2.1 25 = .ok (.lstore 5, 2) := by decide +kernel
theorem d_Ro_put_27 : decode y_Ro_put.2.1 27 = .ok (.aload_n 0, 1) := by decide +kernel
theorem d_Ro_put_28 : decode y_Ro_put.2.1 28 = .ok (.getfield 9, 3) := by decide +kernel
theorem d_Ro_put_31 : decode y_Ro_put.2.1 31 = .ok (.iload_n 1, 1) := by decide +kernel
theorem d_Ro_put_32 : decode y_Ro_put.2.1 32 = .ok (.bipush 30, 2) := by decide +kernel
theorem d_Ro_put_34 : decode y_Ro_put.2.1 34 = .ok (.imul, 1) := by decide +kernel
theorem d_Ro_put_35 : decode y_Ro_put.2.1 35 = .ok (.iload_n 2, 1) := by decide +kernel
theorem d_Ro_put_36 : decode y_Ro_put.2.1 36 = .ok (.iadd, 1) := by decide +kernel
theorem d_Ro_put_37 : decode y_Ro_put.2.1 37 = .ok (.lload 5, 2) := by decide +kernel
theorem d_Ro_put_39 : decode y_Ro_put.2.1 39 = .ok (.lastore, 1) := by decide +kernel
theorem d_Ro_put_40 : decode y_Ro_put.2.1 40 = .ok (.lload 5, 2) := by decide +kernel
theorem d_Ro_put_42 : decode y_Ro_put.2.1 42 = .ok (.lreturn, 1) := by decide +kernel
theorem d_Ro_cut_0 : decode y_Ro_cut.2.1 0 = .ok (.iload_n 0, 1) := by decide +kernel
theorem d_Ro_cut_1 : decode y_Ro_cut.2.1 1 = .ok (.tableswitch 41 0 2 #[27, 32, 37], 27) := by decide +kernel
theorem d_Ro_cut_28 : decode y_Ro_cut.2.1 28 = .ok (.lload_n 1, 1) := by decide +kernel
theorem d_Ro_cut_29 : decode y_Ro_cut.2.1 29 = .ok (.l2i, 1) := by decide +kernel
theorem d_Ro_cut_30 : decode y_Ro_cut.2.1 30 = .ok (.i2b, 1) := by decide +kernel
theorem d_Ro_cut_31 : decode y_Ro_cut.2.1 31 = .ok (.i2l, 1) := by decide +kernel
theorem d_Ro_cut_32 : decode y_Ro_cut.2.1 32 = .ok (.lreturn, 1) := by decide +kernel
theorem d_Ro_cut_33 : decode y_Ro_cut.2.1 33 = .ok (.lload_n 1, 1) := by decide +kernel
theorem d_Ro_cut_34 : decode y_Ro_cut.2.1 34 = .ok (.l2i, 1) := by decide +kernel
theorem d_Ro_cut_35 : decode y_Ro_cut.2.1 35 = .ok (.i2s, 1) := by decide +kernel
theorem d_Ro_cut_36 : decode y_Ro_cut.2.1 36 = .ok (.i2l, 1) := by decide +kernel
theorem d_Ro_cut_37 : decode y_Ro_cut.2.1 37 = .ok (.lreturn, 1) := by decide +kernel
theorem d_Ro_cut_38 : decode y_Ro_cut.2.1 38 = .ok (.lload_n 1, 1) := by decide +kernel
theorem d_Ro_cut_39 : decode y_Ro_cut.2.1 39 = .ok (.l2i, 1) := by decide +kernel
theorem d_Ro_cut_40 : decode y_Ro_cut.2.1 40 = .ok (.i2l, 1) := by decide +kernel
theorem d_Ro_cut_41 : decode y_Ro_cut.2.1 41 = .ok (.lreturn, 1) := by decide +kernel
theorem d_Ro_cut_42 : decode y_Ro_cut.2.1 42 = .ok (.lload_n 1, 1) := by decide +kernel
theorem d_Ro_cut_43 : decode y_Ro_cut.2.1 43 = .ok (.lreturn, 1) := by decide +kernel
theorem d_Sm_init_0 : decode y_Sm_init.2.1 0 = .ok (.aload_n 0, 1) := by decide +kernel
theorem d_Sm_init_1 : decode y_Sm_init.2.1 1 = .ok (.invokespecial 3, 3) := by decide +kernel
theorem d_Sm_init_4 : decode y_Sm_init.2.1 4 = .ok (.aload_n 0, 1) := by decide +kernel
theorem d_Sm_init_5 : decode y_Sm_init.2.1 5 = .ok (.sipush 168, 3) := by decide +kernel
theorem d_Sm_init_8 : decode y_Sm_init.2.1 8 = .ok (.newarray .int, 2) := by decide +kernel
theorem d_Sm_init_10 : decode y_Sm_init.2.1 10 = .ok (.putfield 9, 3) := by decide +kernel
theorem d_Sm_init_13 : decode y_Sm_init.2.1 13 = .ok (.aload_n 0, 1) := by decide +kernel
theorem d_Sm_init_14 : decode y_Sm_init.2.1 14 = .ok (.sipush 168, 3) := by decide +kernel
theorem d_Sm_init_17 : decode y_Sm_init.2.1 17 = .ok (.newarray .int, 2) := by decide +kernel
theorem d_Sm_init_19 : decode y_Sm_init.2.1 19 = .ok (.putfield 15, 3) := by decide +kernel
theorem d_Sm_init_22 : decode y_Sm_init.2.1 22 = .ok (.aload_n 0, 1) := by decide +kernel
theorem d_Sm_init_23 : decode y_Sm_init.2.1 23 = .ok (.sipush 252, 3) := by decide +kernel
theorem d_Sm_init_26 : decode y_Sm_init.2.1 26 = .ok (.newarray .int, 2) := by decide +kernel
theorem d_Sm_init_28 : decode y_Sm_init.2.1 28 = .ok (.putfield 18, 3) := by decide +kernel
theorem d_Sm_init_31 : decode y_Sm_init.2.1 31 = .ok (.aload_n 0, 1) := by decide +kernel
theorem d_Sm_init_32 : decode y_Sm_init.2.1 32 = .ok (.bipush 63, 2) := by decide +kernel
theorem d_Sm_init_34 : decode y_Sm_init.2.1 34 = .ok (.newarray .int, 2) := by decide +kernel
theorem d_Sm_init_36 : decode y_Sm_init.2.1 36 = .ok (.putfield 21, 3) := by decide +kernel
theorem d_Sm_init_39 : decode y_Sm_init.2.1 39 = .ok (.aload_n 0, 1) := by decide +kernel
theorem d_Sm_init_40 : decode y_Sm_init.2.1 40 = .ok (.bipush 8, 2) := by decide +kernel
theorem d_Sm_init_42 : decode y_Sm_init.2.1 42 = .ok (.newarray .int, 2) := by decide +kernel
theorem d_Sm_init_44 : decode y_Sm_init.2.1 44 = .ok (.putfield 24, 3) := by decide +kernel
theorem d_Sm_init_47 : decode y_Sm_init.2.1 47 = .ok (.aload_n 0, 1) := by decide +kernel
theorem d_Sm_init_48 : decode y_Sm_init.2.1 48 = .ok (.sipush 168, 3) := by decide +kernel
theorem d_Sm_init_51 : decode y_Sm_init.2.1 51 = .ok (.newarray .int, 2) := by decide +kernel
theorem d_Sm_init_53 : decode y_Sm_init.2.1 53 = .ok (.putfield 27, 3) := by decide +kernel
theorem d_Sm_init_56 : decode y_Sm_init.2.1 56 = .ok (.aload_n 0, 1) := by decide +kernel
theorem d_Sm_init_57 : decode y_Sm_init.2.1 57 = .ok (.sipush 168, 3) := by decide +kernel
theorem d_Sm_init_60 : decode y_Sm_init.2.1 60 = .ok (.newarray .int, 2) := by decide +kernel
theorem d_Sm_init_62 : decode y_Sm_init.2.1 62 = .ok (.putfield 30, 3) := by decide +kernel
theorem d_Sm_init_65 : decode y_Sm_init.2.1 65 = .ok (.aload_n 0, 1) := by decide +kernel
theorem d_Sm_init_66 : decode y_Sm_init.2.1 66 = .ok (.bipush 8, 2) := by decide +kernel
theorem d_Sm_init_68 : decode y_Sm_init.2.1 68 = .ok (.newarray .int, 2) := by decide +kernel
theorem d_Sm_init_70 : decode y_Sm_init.2.1 70 = .ok (.putfield 33, 3) := by decide +kernel
theorem d_Sm_init_73 : decode y_Sm_init.2.1 73 = .ok (.aload_n 0, 1) := by decide +kernel
theorem d_Sm_init_74 : decode y_Sm_init.2.1 74 = .ok (.bipush 8, 2) := by decide +kernel
theorem d_Sm_init_76 : decode y_Sm_init.2.1 76 = .ok (.newarray .int, 2) := by decide +kernel
theorem d_Sm_init_78 : decode y_Sm_init.2.1 78 = .ok (.putfield 36, 3) := by decide +kernel
theorem d_Sm_init_81 : decode y_Sm_init.2.1 81 = .ok (.aload_n 0, 1) := by decide +kernel
theorem d_Sm_init_82 : decode y_Sm_init.2.1 82 = .ok (.bipush 8, 2) := by decide +kernel
theorem d_Sm_init_84 : decode y_Sm_init.2.1 84 = .ok (.newarray .int, 2) := by decide +kernel
theorem d_Sm_init_86 : decode y_Sm_init.2.1 86 = .ok (.putfield 39, 3) := by decide +kernel
theorem d_Sm_init_89 : decode y_Sm_init.2.1 89 = .ok (.aload_n 0, 1) := by decide +kernel
theorem d_Sm_init_90 : decode y_Sm_init.2.1 90 = .ok (.iconst (-1), 1) := by decide +kernel
theorem d_Sm_init_91 : decode y_Sm_init.2.1 91 = .ok (.putfield 42, 3) := by decide +kernel
theorem d_Sm_init_94 : decode y_Sm_init.2.1 94 = .ok (.aload_n 0, 1) := by decide +kernel
theorem d_Sm_init_95 : decode y_Sm_init.2.1 95 = .ok (.aload_n 1, 1) := by decide +kernel
theorem d_Sm_init_96 : decode y_Sm_init.2.1 96 = .ok (.putfield 46, 3) := by decide +kernel
theorem d_Sm_init_99 : decode y_Sm_init.2.1 99 = .ok (.aload_n 0, 1) := by decide +kernel
theorem d_Sm_init_100 : decode y_Sm_init.2.1 100 = .ok (.aload_n 2, 1) := by decide +kernel
theorem d_Sm_init_101 : decode y_Sm_init.2.1 101 = .ok (.putfield 50, 3) := by decide +kernel
theorem d_Sm_init_104 : decode y_Sm_init.2.1 104 = .ok (.return_, 1) := by decide +kernel
theorem d_Sm_follow_0 : decode y_Sm_follow.2.1 0 = .ok (.aload_n 0, 1) := by decide +kernel
theorem d_Sm_follow_1 : decode y_Sm_follow.2.1 1 = .ok (.getfield 42, 3) := by decide +kernel
theorem d_Sm_follow_4 : decode y_Sm_follow.2.1 4 = .ok (.aload_n 0, 1) := by decide +kernel
theorem d_Sm_follow_5 : decode y_Sm_follow.2.1 5 = .ok (.getfield 50, 3) := by decide +kernel
theorem d_Sm_follow_8 : decode y_Sm_follow.2.1 8 = .ok (.invokevirtual 54, 3) := by decide +kernel
theorem d_Sm_follow_11 : decode y_Sm_follow.2.1 11 = .ok (.if_icmp .ne 37, 3) := by decide +kernel
theorem d_Sm_follow_14 : decode y_Sm_follow.2.1 14 = .ok (.aload_n 0, 1) := by decide +kernel
theorem d_Sm_follow_15 : decode y_Sm_follow.2.1 15 = .ok (.getfield 60, 3) := by decide +kernel
theorem d_Sm_follow_18 : decode y_Sm_follow.2.1 18 = .ok (.iload_n 1, 1) := by decide +kernel
theorem d_Sm_follow_19 : decode y_Sm_follow.2.1 19 = .ok (.if_icmp .ne 29, 3) := by decide +kernel
theorem d_Sm_follow_22 : decode y_Sm_follow.2.1 22 = .ok (.aload_n 0, 1) := by decide +kernel
theorem d_Sm_follow_23 : decode y_Sm_follow.2.1 23 = .ok (.getfield 63, 3) := by decide +kernel
theorem d_Sm_follow_26 : decode y_Sm_follow.2.1 26 = .ok (.iload_n 2, 1) := by decide +kernel
theorem d_Sm_follow_27 : decode y_Sm_follow.2.1 27 = .ok (.if_icmp .ne 21, 3) := by decide +kernel
theorem d_Sm_follow_30 : decode y_Sm_follow.2.1 30 = .ok (.aload_n 0, 1) := by decide +kernel
theorem d_Sm_follow_31 : decode y_Sm_follow.2.1 31 = .ok (.getfield 66, 3) := by decide +kernel
theorem d_Sm_follow_34 : decode y_Sm_follow.2.1 34 = .ok (.iload_n 3, 1) := by decide +kernel
theorem d_Sm_follow_35 : decode y_Sm_follow.2.1 35 = .ok (.if_icmp .ne 13, 3) := by decide +kernel
theorem d_Sm_follow_38 : decode y_Sm_follow.2.1 38 = .ok (.aload_n 0, 1) := by decide +kernel
theorem d_Sm_follow_39 : decode y_Sm_follow.2.1 39 = .ok (.getfield 69, 3) := by decide +kernel
theorem d_Sm_follow_42 : decode y_Sm_follow.2.1 42 = .ok (.iload 4, 2) := by decide +kernel
theorem d_Sm_follow_44 : decode y_Sm_follow.2.1 44 = .ok (.if_icmp .ne 4, 3) := by decide +kernel
theorem d_Sm_follow_47 : decode y_Sm_follow.2.1 47 = .ok (.return_, 1) := by decide +kernel
theorem d_Sm_follow_48 : decode y_Sm_follow.2.1 48 = .ok (.aload_n 0, 1) := by decide +kernel
theorem d_Sm_follow_49 : decode y_Sm_follow.2.1 49 = .ok (.aload_n 0, 1) := by decide +kernel
theorem d_Sm_follow_50 : decode y_Sm_follow.2.1 50 = .ok (.getfield 50, 3) := by decide +kernel
theorem d_Sm_follow_53 : decode y_Sm_follow.2.1 53 = .ok (.invokevirtual 54, 3) := by decide +kernel
theorem d_Sm_follow_56 : decode y_Sm_follow.2.1 56 = .ok (.putfield 42, 3) := by decide +kernel
theorem d_Sm_follow_59 : decode y_Sm_follow.2.1 59 = .ok (.aload_n 0, 1) := by decide +kernel
theorem d_Sm_follow_60 : decode y_Sm_follow.2.1 60 = .ok (.iload_n 1, 1) := by decide +kernel
theorem d_Sm_follow_61 : decode y_Sm_follow.2.1 61 = .ok (.putfield 60, 3) := by decide +kernel
theorem d_Sm_follow_64 : decode y_Sm_follow.2.1 64 = .ok (.aload_n 0, 1) := by decide +kernel
theorem d_Sm_follow_65 : decode y_Sm_follow.2.1 65 = .ok (.iload_n 2, 1) := by decide +kernel
theorem d_Sm_follow_66 : decode y_Sm_follow.2.1 66 = .ok (.putfield 63, 3) := by decide +kernel
theorem d_Sm_follow_69 : decode y_Sm_follow.2.1 69 = .ok (.aload_n 0, 1) := by decide +kernel
theorem d_Sm_follow_70 : decode y_Sm_follow.2.1 70 = .ok (.iload_n 3, 1) := by decide +kernel
theorem d_Sm_follow_71 : decode y_Sm_follow.2.1 71 = .ok (.putfield 66, 3) := by decide +kernel
theorem d_Sm_follow_74 : decode y_Sm_follow.2.1 74 = .ok (.aload_n 0, 1) := by decide +kernel
theorem d_Sm_follow_75 : decode y_Sm_follow.2.1 75 = .ok (.iload 4, 2) := by decide +kernel
theorem d_Sm_follow_77 : decode y_Sm_follow.2.1 77 = .ok (.putfield 69, 3) := by decide +kernel
theorem d_Sm_follow_80 : decode y_Sm_follow.2.1 80 = .ok (.aload_n 0, 1) := by decide +kernel
theorem d_Sm_follow_81 : decode y_Sm_follow.2.1 81 = .ok (.invokevirtual 72, 3) := by decide +kernel
theorem d_Sm_follow_84 : decode y_Sm_follow.2.1 84 = .ok (.aload_n 0, 1) := by decide +kernel
theorem d_Sm_follow_85 : decode y_Sm_follow.2.1 85 = .ok (.iload_n 1, 1) := by decide +kernel
theorem d_Sm_follow_86 : decode y_Sm_follow.2.1 86 = .ok (.iload_n 2, 1) := by decide +kernel
theorem d_Sm_follow_87 : decode y_Sm_follow.2.1 87 = .ok (.iload_n 3, 1) := by decide +kernel
theorem d_Sm_follow_88 : decode y_Sm_follow.2.1 88 = .ok (.invokevirtual 75, 3) := by decide +kernel
theorem d_Sm_follow_91 : decode y_Sm_follow.2.1 91 = .ok (.iconst 0, 1) := by decide +kernel
theorem d_Sm_follow_92 : decode y_Sm_follow.2.1 92 = .ok (.istore 5, 2) := by decide +kernel
theorem d_Sm_follow_94 : decode y_Sm_follow.2.1 94 = .ok (.iload 5, 2) := by decide +kernel
theorem d_Sm_follow_96 : decode y_Sm_follow.2.1 96 = .ok (.bipush 21, 2) := by decide +kernel
theorem d_Sm_follow_98 : decode y_Sm_follow.2.1 98 = .ok (.if_icmp .ge 58, 3) := by decide +kernel
theorem d_Sm_follow_101 : decode y_Sm_follow.2.1 101 = .ok (.aload_n 0, 1) := by decide +kernel
theorem d_Sm_follow_102 : decode y_Sm_follow.2.1 102 = .ok (.iload 5, 2) := by decide +kernel
theorem d_Sm_follow_104 : decode y_Sm_follow.2.1 104 = .ok (.invokevirtual 79, 3) := by decide +kernel
theorem d_Sm_follow_107 : decode y_Sm_follow.2.1 107 = .ok (.aload_n 0, 1) := by decide +kernel
theorem d_Sm_follow_108 : decode y_Sm_follow.2.1 108 = .ok (.iload 5, 2) := by decide +kernel
theorem d_Sm_follow_110 : decode y_Sm_follow.2.1 110 = .ok (.invokevirtual 83, 3) := by decide +kernel
theorem d_Sm_follow_113 : decode y_Sm_follow.2.1 113 = .ok (.iload 5, 2) := by decide +kernel
theorem d_Sm_follow_115 : decode y_Sm_follow.2.1 115 = .ok (.bipush 20, 2) := by decide +kernel
theorem d_Sm_follow_117 : decode y_Sm_follow.2.1 117 = .ok (.if_icmp .ge 33, 3) := by decide +kernel
theorem d_Sm_follow_120 : decode y_Sm_follow.2.1 120 = .ok (.aload_n 0, 1) := by decide +kernel
theorem d_Sm_follow_121 : decode y_Sm_follow.2.1 121 = .ok (.iload 5, 2) := by decide +kernel
theorem d_Sm_follow_123 : decode y_Sm_follow.2.1 123 = .ok (.aload_n 0, 1) := by decide +kernel
theorem d_Sm_follow_124 : decode y_Sm_follow.2.1 124 = .ok (.getfield 46, 3) := by decide +kernel
theorem d_Sm_follow_127 : decode y_Sm_follow.2.1 127 = .ok (.getfield 86, 3) := by decide +kernel
theorem d_Sm_follow_130 : decode y_Sm_follow.2.1 130 = .ok (.iload 4, 2) := by decide +kernel
theorem d_Sm_follow_132 : decode y_Sm_follow.2.1 132 = .ok (.iconst 0, 1) := by decide +kernel
theorem d_Sm_follow_133 : decode y_Sm_follow.2.1 133 = .ok (.invokevirtual 92, 3) := by decide +kernel
theorem d_Sm_follow_136 : decode y_Sm_follow.2.1 136 = .ok (.aload_n 0, 1) := by decide +kernel
theorem d_Sm_follow_137 : decode y_Sm_follow.2.1 137 = .ok (.getfield 46, 3) := by decide +kernel
theorem d_Sm_follow_140 : decode y_Sm_follow.2.1 140 = .ok (.iload 4, 2) := by decide +kernel
theorem d_Sm_follow_142 : decode y_Sm_follow.2.1 142 = .ok (.iload 5, 2) := by decide +kernel
theorem d_Sm_follow_144 : decode y_Sm_follow.2.1 144 = .ok (.invokevirtual 98, 3) := by decide +kernel
theorem d_Sm_follow_147 : decode y_Sm_follow.2.1 147 = .ok (.invokevirtual 101, 3) := by decide +kernel
theorem d_Sm_follow_150 : decode y_Sm_follow.2.1 150 = .ok (.iinc 5 1, 3) := by decide +kernel
theorem d_Sm_follow_153 : decode y_Sm_follow.2.1 153 = .ok (.goto (-59), 3) := by decide +kernel
theorem d_Sm_follow_156 : decode y_Sm_follow.2.1 156 = .ok (.return_, 1) := by decide +kernel
theorem d_Sm_airOf_0 : decode y_Sm_airOf.2.1 0 = .ok (.iload_n 1, 1) := by decide +kernel
theorem d_Sm_airOf_1 : decode y_Sm_airOf.2.1 1 = .ok (.ifCond .lt 23, 3) := by decide +kernel
theorem d_Sm_airOf_4 : decode y_Sm_airOf.2.1 4 = .ok (.iload_n 1, 1) := by decide +kernel
theorem d_Sm_airOf_5 : decode y_Sm_airOf.2.1 5 = .ok (.bipush 12, 2) := by decide +kernel
theorem d_Sm_airOf_7 : decode y_Sm_airOf.2.1 7 = .ok (.if_icmp .ge 17, 3) := by decide +kernel
theorem d_Sm_airOf_10 : decode y_Sm_airOf.2.1 10 = .ok (.iload_n 2, 1) := by decide +kernel
theorem d_Sm_airOf_11 : decode y_Sm_airOf.2.1 11 = .ok (.ifCond .lt 13, 3) := by decide +kernel
theorem d_Sm_airOf_14 : decode y_Sm_airOf.2.1 14 = .ok (.iload_n 2, 1) := by decide +kernel
theorem d_Sm_airOf_15 : decode y_Sm_airOf.2.1 15 = .ok (.bipush 21, 2) := by decide +kernel
theorem d_Sm_airOf_17 : decode y_Sm_airOf.2.1 17 = .ok (.if_icmp .ge 7, 3) := by decide +kernel
theorem d_Sm_airOf_20 : decode y_Sm_airOf.2.1 20 = .ok (.iconst 1, 1) := by decide +kernel
theorem d_Sm_airOf_21 : decode y_Sm_airOf.2.1 21 = .ok (.goto 4, 3) := by decide +kernel
theorem d_Sm_airOf_24 : decode y_Sm_airOf.2.1 24 = .ok (.iconst 0, 1) := by decide +kernel
theorem d_Sm_airOf_25 : decode y_Sm_airOf.2.1 25 = .ok (.istore_n 3, 1) := by decide +kernel
theorem d_Sm_airOf_26 : decode y_Sm_airOf.2.1 26 = .ok (.iload_n 3, 1) := by decide +kernel
theorem d_Sm_airOf_27 : decode y_Sm_airOf.2.1 27 = .ok (.ifCond .eq 17, 3) := by decide +kernel
theorem d_Sm_airOf_30 : decode y_Sm_airOf.2.1 30 = .ok (.aload_n 0, 1) := by decide +kernel
theorem d_Sm_airOf_31 : decode y_Sm_airOf.2.1 31 = .ok (.getfield 18, 3) := by decide +kernel
theorem d_Sm_airOf_34 : decode y_Sm_airOf.2.1 34 = .ok (.iload_n 2, 1) := by decide +kernel
theorem d_Sm_airOf_35 : decode y_Sm_airOf.2.1 35 = .ok (.bipush 12, 2) := by decide +kernel
theorem d_Sm_airOf_37 : decode y_Sm_airOf.2.1 37 = .ok (.imul, 1) := by decide +kernel
theorem d_Sm_airOf_38 : decode y_Sm_airOf.2.1 38 = .ok (.iload_n 1, 1) := by decide +kernel
theorem d_Sm_airOf_39 : decode y_Sm_airOf.2.1 39 = .ok (.iadd, 1) := by decide +kernel
theorem d_Sm_airOf_40 : decode y_Sm_airOf.2.1 40 = .ok (.iaload, 1) := by decide +kernel
theorem d_Sm_airOf_41 : decode y_Sm_airOf.2.1 41 = .ok (.goto 4, 3) := by decide +kernel
theorem d_Sm_airOf_44 : decode y_Sm_airOf.2.1 44 = .ok (.iconst 0, 1) := by decide +kernel
theorem d_Sm_airOf_45 : decode y_Sm_airOf.2.1 45 = .ok (.ireturn, 1) := by decide +kernel
theorem d_Sm_aboveIn_0 : decode y_Sm_aboveIn.2.1 0 = .ok (.iload_n 1, 1) := by decide +kernel
theorem d_Sm_aboveIn_1 : decode y_Sm_aboveIn.2.1 1 = .ok (.ifCond .lt 23, 3) := by decide +kernel
theorem d_Sm_aboveIn_4 : decode y_Sm_aboveIn.2.1 4 = .ok (.iload_n 1, 1) := by decide +kernel
theorem d_Sm_aboveIn_5 : decode y_Sm_aboveIn.2.1 5 = .ok (.bipush 8, 2) := by decide +kernel
theorem d_Sm_aboveIn_7 : decode y_Sm_aboveIn.2.1 7 = .ok (.if_icmp .ge 17, 3) := by decide +kernel
theorem d_Sm_aboveIn_10 : decode y_Sm_aboveIn.2.1 10 = .ok (.iload_n 2, 1) := by decide +kernel
theorem d_Sm_aboveIn_11 : decode y_Sm_aboveIn.2.1 11 = .ok (.ifCond .lt 13, 3) := by decide +kernel
theorem d_Sm_aboveIn_14 : decode y_Sm_aboveIn.2.1 14 = .ok (.iload_n 2, 1) := by decide +kernel
theorem d_Sm_aboveIn_15 : decode y_Sm_aboveIn.2.1 15 = .ok (.bipush 21, 2) := by decide +kernel
theorem d_Sm_aboveIn_17 : decode y_Sm_aboveIn.2.1 17 = .ok (.if_icmp .ge 7, 3) := by decide +kernel
theorem d_Sm_aboveIn_20 : decode y_Sm_aboveIn.2.1 20 = .ok (.iconst 1, 1) := by decide +kernel
theorem d_Sm_aboveIn_21 : decode y_Sm_aboveIn.2.1 21 = .ok (.goto 4, 3) := by decide +kernel
theorem d_Sm_aboveIn_24 : decode y_Sm_aboveIn.2.1 24 = .ok (.iconst 0, 1) := by decide +kernel
theorem d_Sm_aboveIn_25 : decode y_Sm_aboveIn.2.1 25 = .ok (.istore_n 3, 1) := by decide +kernel
theorem d_Sm_aboveIn_26 : decode y_Sm_aboveIn.2.1 26 = .ok (.iload_n 3, 1) := by decide +kernel
theorem d_Sm_aboveIn_27 : decode y_Sm_aboveIn.2.1 27 = .ok (.ifCond .eq 17, 3) := by decide +kernel
theorem d_Sm_aboveIn_30 : decode y_Sm_aboveIn.2.1 30 = .ok (.aload_n 0, 1) := by decide +kernel
theorem d_Sm_aboveIn_31 : decode y_Sm_aboveIn.2.1 31 = .ok (.getfield 9, 3) := by decide +kernel
theorem d_Sm_aboveIn_34 : decode y_Sm_aboveIn.2.1 34 = .ok (.iload_n 2, 1) := by decide +kernel
theorem d_Sm_aboveIn_35 : decode y_Sm_aboveIn.2.1 35 = .ok (.bipush 8, 2) := by decide +kernel
theorem d_Sm_aboveIn_37 : decode y_Sm_aboveIn.2.1 37 = .ok (.imul, 1) := by decide +kernel
theorem d_Sm_aboveIn_38 : decode y_Sm_aboveIn.2.1 38 = .ok (.iload_n 1, 1) := by decide +kernel
theorem d_Sm_aboveIn_39 : decode y_Sm_aboveIn.2.1 39 = .ok (.iadd, 1) := by decide +kernel
theorem d_Sm_aboveIn_40 : decode y_Sm_aboveIn.2.1 40 = .ok (.iaload, 1) := by decide +kernel
theorem d_Sm_aboveIn_41 : decode y_Sm_aboveIn.2.1 41 = .ok (.goto 4, 3) := by decide +kernel
theorem d_Sm_aboveIn_44 : decode y_Sm_aboveIn.2.1 44 = .ok (.iconst 0, 1) := by decide +kernel
theorem d_Sm_aboveIn_45 : decode y_Sm_aboveIn.2.1 45 = .ok (.ireturn, 1) := by decide +kernel
theorem d_Sm_mixedIn_0 : decode y_Sm_mixedIn.2.1 0 = .ok (.iload_n 1, 1) := by decide +kernel
theorem d_Sm_mixedIn_1 : decode y_Sm_mixedIn.2.1 1 = .ok (.ifCond .lt 23, 3) := by decide +kernel
theorem d_Sm_mixedIn_4 : decode y_Sm_mixedIn.2.1 4 = .ok (.iload_n 1, 1) := by decide +kernel
theorem d_Sm_mixedIn_5 : decode y_Sm_mixedIn.2.1 5 = .ok (.bipush 8, 2) := by decide +kernel
theorem d_Sm_mixedIn_7 : decode y_Sm_mixedIn.2.1 7 = .ok (.if_icmp .ge 17, 3) := by decide +kernel
theorem d_Sm_mixedIn_10 : decode y_Sm_mixedIn.2.1 10 = .ok (.iload_n 2, 1) := by decide +kernel
theorem d_Sm_mixedIn_11 : decode y_Sm_mixedIn.2.1 11 = .ok (.ifCond .lt 13, 3) := by decide +kernel
theorem d_Sm_mixedIn_14 : decode y_Sm_mixedIn.2.1 14 = .ok (.iload_n 2, 1) := by decide +kernel
theorem d_Sm_mixedIn_15 : decode y_Sm_mixedIn.2.1 15 = .ok (.bipush 21, 2) := by decide +kernel
theorem d_Sm_mixedIn_17 : decode y_Sm_mixedIn.2.1 17 = .ok (.if_icmp .ge 7, 3) := by decide +kernel
theorem d_Sm_mixedIn_20 : decode y_Sm_mixedIn.2.1 20 = .ok (.iconst 1, 1) := by decide +kernel
theorem d_Sm_mixedIn_21 : decode y_Sm_mixedIn.2.1 21 = .ok (.goto 4, 3) := by decide +kernel
theorem d_Sm_mixedIn_24 : decode y_Sm_mixedIn.2.1 24 = .ok (.iconst 0, 1) := by decide +kernel
theorem d_Sm_mixedIn_25 : decode y_Sm_mixedIn.2.1 25 = .ok (.istore_n 3, 1) := by decide +kernel
theorem d_Sm_mixedIn_26 : decode y_Sm_mixedIn.2.1 26 = .ok (.iload_n 3, 1) := by decide +kernel
theorem d_Sm_mixedIn_27 : decode y_Sm_mixedIn.2.1 27 = .ok (.ifCond .eq 17, 3) := by decide +kernel
theorem d_Sm_mixedIn_30 : decode y_Sm_mixedIn.2.1 30 = .ok (.aload_n 0, 1) := by decide +kernel
theorem d_Sm_mixedIn_31 : decode y_Sm_mixedIn.2.1 31 = .ok (.getfield 15, 3) := by decide +kernel
theorem d_Sm_mixedIn_34 : decode y_Sm_mixedIn.2.1 34 = .ok (.iload_n 2, 1) := by decide +kernel
theorem d_Sm_mixedIn_35 : decode y_Sm_mixedIn.2.1 35 = .ok (.bipush 8, 2) := by decide +kernel
theorem d_Sm_mixedIn_37 : decode y_Sm_mixedIn.2.1 37 = .ok (.imul, 1) := by decide +kernel
theorem d_Sm_mixedIn_38 : decode y_Sm_mixedIn.2.1 38 = .ok (.iload_n 1, 1) := by decide +kernel
theorem d_Sm_mixedIn_39 : decode y_Sm_mixedIn.2.1 39 = .ok (.iadd, 1) := by decide +kernel
theorem d_Sm_mixedIn_40 : decode y_Sm_mixedIn.2.1 40 = .ok (.iaload, 1) := by decide +kernel
theorem d_Sm_mixedIn_41 : decode y_Sm_mixedIn.2.1 41 = .ok (.goto 4, 3) := by decide +kernel
theorem d_Sm_mixedIn_44 : decode y_Sm_mixedIn.2.1 44 = .ok (.iconst 0, 1) := by decide +kernel
theorem d_Sm_mixedIn_45 : decode y_Sm_mixedIn.2.1 45 = .ok (.ireturn, 1) := by decide +kernel
theorem d_Sm_isShut_0 : decode y_Sm_isShut.2.1 0 = .ok (.aload_n 0, 1) := by decide +kernel
theorem d_Sm_isShut_1 : decode y_Sm_isShut.2.1 1 = .ok (.iload_n 1, 1) := by decide +kernel
theorem d_Sm_isShut_2 : decode y_Sm_isShut.2.1 2 = .ok (.iload_n 2, 1) := by decide +kernel
theorem d_Sm_isShut_3 : decode y_Sm_isShut.2.1 3 = .ok (.invokevirtual 104, 3) := by decide +kernel
theorem d_Sm_isShut_6 : decode y_Sm_isShut.2.1 6 = .ok (.aload_n 0, 1) := by decide +kernel
theorem d_Sm_isShut_7 : decode y_Sm_isShut.2.1 7 = .ok (.getfield 46, 3) := by decide +kernel
theorem d_Sm_isShut_10 : decode y_Sm_isShut.2.1 10 = .ok (.getfield 107, 3) := by decide +kernel
theorem d_Sm_isShut_13 : decode y_Sm_isShut.2.1 13 = .ok (.iconst 0, 1) := by decide +kernel
theorem d_Sm_isShut_14 : decode y_Sm_isShut.2.1 14 = .ok (.iconst 0, 1) := by decide +kernel
theorem d_Sm_isShut_15 : decode y_Sm_isShut.2.1 15 = .ok (.invokevirtual 92, 3) := by decide +kernel
theorem d_Sm_isShut_18 : decode y_Sm_isShut.2.1 18 = .ok (.if_icmp .le 7, 3) := by decide +kernel
theorem d_Sm_isShut_21 : decode y_Sm_isShut.2.1 21 = .ok (.iconst 1, 1) := by decide +kernel
theorem d_Sm_isShut_22 : decode y_Sm_isShut.2.1 22 = .ok (.goto 4, 3) := by decide +kernel
theorem d_Sm_isShut_25 : decode y_Sm_isShut.2.1 25 = .ok (.iconst 0, 1) := by decide +kernel
theorem d_Sm_isShut_26 : decode y_Sm_isShut.2.1 26 = .ok (.ireturn, 1) := by decide +kernel
theorem d_Sm_isMarked_0 : decode y_Sm_isMarked.2.1 0 = .ok (.aload_n 0, 1) := by decide +kernel
theorem d_Sm_isMarked_1 : decode y_Sm_isMarked.2.1 1 = .ok (.iload_n 1, 1) := by decide +kernel
theorem d_Sm_isMarked_2 : decode y_Sm_isMarked.2.1 2 = .ok (.iload_n 2, 1) := by decide +kernel
theorem d_Sm_isMarked_3 : decode y_Sm_isMarked.2.1 3 = .ok (.invokevirtual 110, 3) := by decide +kernel
theorem d_Sm_isMarked_6 : decode y_Sm_isMarked.2.1 6 = .ok (.aload_n 0, 1) := by decide +kernel
theorem d_Sm_isMarked_7 : decode y_Sm_isMarked.2.1 7 = .ok (.iload_n 1, 1) := by decide +kernel
theorem d_Sm_isMarked_8 : decode y_Sm_isMarked.2.1 8 = .ok (.iload_n 2, 1) := by decide +kernel
theorem d_Sm_isMarked_9 : decode y_Sm_isMarked.2.1 9 = .ok (.invokevirtual 104, 3) := by decide +kernel
theorem d_Sm_isMarked_12 : decode y_Sm_isMarked.2.1 12 = .ok (.iadd, 1) := by decide +kernel
theorem d_Sm_isMarked_13 : decode y_Sm_isMarked.2.1 13 = .ok (.aload_n 0, 1) := by decide +kernel
theorem d_Sm_isMarked_14 : decode y_Sm_isMarked.2.1 14 = .ok (.getfield 46, 3) := by decide +kernel
theorem d_Sm_isMarked_17 : decode y_Sm_isMarked.2.1 17 = .ok (.getfield 107, 3) := by decide +kernel
theorem d_Sm_isMarked_20 : decode y_Sm_isMarked.2.1 20 = .ok (.iconst 0, 1) := by decide +kernel
theorem d_Sm_isMarked_21 : decode y_Sm_isMarked.2.1 21 = .ok (.iconst 3, 1) := by decide +kernel
theorem d_Sm_isMarked_22 : decode y_Sm_isMarked.2.1 22 = .ok (.invokevirtual 92, 3) := by decide +kernel
theorem d_Sm_isMarked_25 : decode y_Sm_isMarked.2.1 25 = .ok (.if_icmp .lt 7, 3) := by decide +kernel
theorem d_Sm_isMarked_28 : decode y_Sm_isMarked.2.1 28 = .ok (.iconst 1, 1) := by decide +kernel
theorem d_Sm_isMarked_29 : decode y_Sm_isMarked.2.1 29 = .ok (.goto 4, 3) := by decide +kernel
theorem d_Sm_isMarked_32 : decode y_Sm_isMarked.2.1 32 = .ok (.iconst 0, 1) := by decide +kernel
theorem d_Sm_isMarked_33 : decode y_Sm_isMarked.2.1 33 = .ok (.ireturn, 1) := by decide +kernel
theorem d_Sm_lostFrom_0 : decode y_Sm_lostFrom.2.1 0 = .ok (.iload_n 1, 1) := by decide +kernel
theorem d_Sm_lostFrom_1 : decode y_Sm_lostFrom.2.1 1 = .ok (.ifCond .lt 18, 3) := by decide +kernel
theorem d_Sm_lostFrom_4 : decode y_Sm_lostFrom.2.1 4 = .ok (.iload_n 1, 1) := by decide +kernel
theorem d_Sm_lostFrom_5 : decode y_Sm_lostFrom.2.1 5 = .ok (.bipush 8, 2) := by decide +kernel
theorem d_Sm_lostFrom_7 : decode y_Sm_lostFrom.2.1 7 = .ok (.if_icmp .ge 12, 3) := by decide +kernel
theorem d_Sm_lostFrom_10 : decode y_Sm_lostFrom.2.1 10 = .ok (.aload_n 0, 1) := by decide +kernel
theorem d_Sm_lostFrom_11 : decode y_Sm_lostFrom.2.1 11 = .ok (.getfield 24, 3) := by decide +kernel
theorem d_Sm_lostFrom_14 : decode y_Sm_lostFrom.2.1 14 = .ok (.iload_n 1, 1) := by decide +kernel
theorem d_Sm_lostFrom_15 : decode y_Sm_lostFrom.2.1 15 = .ok (.iaload, 1) := by decide +kernel
theorem d_Sm_lostFrom_16 : decode y_Sm_lostFrom.2.1 16 = .ok (.goto 4, 3) := by decide +kernel
theorem d_Sm_lostFrom_19 : decode y_Sm_lostFrom.2.1 19 = .ok (.iconst (-1), 1) := by decide +kernel
theorem d_Sm_lostFrom_20 : decode y_Sm_lostFrom.2.1 20 = .ok (.ireturn, 1) := by decide +kernel
theorem d_Sm_total_0 : decode y_Sm_total.2.1 0 = .ok (.iload_n 1, 1) := by decide +kernel
theorem d_Sm_total_1 : decode y_Sm_total.2.1 1 = .ok (.ifCond .lt 9, 3) := by decide +kernel
theorem d_Sm_total_4 : decode y_Sm_total.2.1 4 = .ok (.iload_n 1, 1) := by decide +kernel
theorem d_Sm_total_5 : decode y_Sm_total.2.1 5 = .ok (.bipush 21, 2) := by decide +kernel
theorem d_Sm_total_7 : decode y_Sm_total.2.1 7 = .ok (.if_icmp .lt 5, 3) := by decide +kernel
theorem d_Sm_total_10 : decode y_Sm_total.2.1 10 = .ok (.iconst 0, 1) := by decide +kernel
theorem d_Sm_total_11 : decode y_Sm_total.2.1 11 = .ok (.ireturn, 1) := by decide +kernel
theorem d_Sm_total_12 : decode y_Sm_total.2.1 12 = .ok (.iload_n 2, 1) := by decide +kernel
theorem d_Sm_total_13 : decode y_Sm_total.2.1 13 = .ok (.ifCond .lt 19, 3) := by decide +kernel
theorem d_Sm_total_16 : decode y_Sm_total.2.1 16 = .ok (.iload_n 2, 1) := by decide +kernel
theorem d_Sm_total_17 : decode y_Sm_total.2.1 17 = .ok (.iconst 3, 1) := by decide +kernel
theorem d_Sm_total_18 : decode y_Sm_total.2.1 18 = .ok (.if_icmp .ge 14, 3) := by decide +kernel
theorem d_Sm_total_21 : decode y_Sm_total.2.1 21 = .ok (.aload_n 0, 1) := by decide +kernel
theorem d_Sm_total_22 : decode y_Sm_total.2.1 22 = .ok (.getfield 21, 3) := by decide +kernel
theorem d_Sm_total_25 : decode y_Sm_total.2.1 25 = .ok (.iload_n 1, 1) := by decide +kernel
theorem d_Sm_total_26 : decode y_Sm_total.2.1 26 = .ok (.iconst 3, 1) := by decide +kernel
theorem d_Sm_total_27 : decode y_Sm_total.2.1 27 = .ok (.imul, 1) := by decide +kernel
theorem d_Sm_total_28 : decode y_Sm_total.2.1 28 = .ok (.iload_n 2, 1) := by decide +kernel
theorem d_Sm_total_29 : decode y_Sm_total.2.1 29 = .ok (.iadd, 1) := by decide +kernel
theorem d_Sm_total_30 : decode y_Sm_total.2.1 30 = .ok (.iaload, 1) := by decide +kernel
theorem d_Sm_total_31 : decode y_Sm_total.2.1 31 = .ok (.ireturn, 1) := by decide +kernel
theorem d_Sm_total_32 : decode y_Sm_total.2.1 32 = .ok (.iconst 0, 1) := by decide +kernel
theorem d_Sm_total_33 : decode y_Sm_total.2.1 33 = .ok (.istore_n 3, 1) := by decide +kernel
theorem d_Sm_total_34 : decode y_Sm_total.2.1 34 = .ok (.iconst 0, 1) := by decide +kernel
theorem d_Sm_total_35 : decode y_Sm_total.2.1 35 = .ok (.istore 4, 2) := by decide +kernel
theorem d_Sm_total_37 : decode y_Sm_total.2.1 37 = .ok (.iload 4, 2) := by decide +kernel
theorem d_Sm_total_39 : decode y_Sm_total.2.1 39 = .ok (.aload_n 0, 1) := by decide +kernel
theorem d_Sm_total_40 : decode y_Sm_total.2.1 40 = .ok (.getfield 46, 3) := by decide +kernel
theorem d_Sm_total_43 : decode y_Sm_total.2.1 43 = .ok (.getfield 113, 3) := by decide +kernel
theorem d_Sm_total_46 : decode y_Sm_total.2.1 46 = .ok (.invokevirtual 116, 3) := by decide +kernel
theorem d_Sm_total_49 : decode y_Sm_total.2.1 49 = .ok (.if_icmp .ge 27, 3) := by decide +kernel
theorem d_Sm_total_52 : decode y_Sm_total.2.1 52 = .ok (.iload_n 3, 1) := by decide +kernel
theorem d_Sm_total_53 : decode y_Sm_total.2.1 53 = .ok (.aload_n 0, 1) := by decide +kernel
theorem d_Sm_total_54 : decode y_Sm_total.2.1 54 = .ok (.iload 4, 2) := by decide +kernel
theorem d_Sm_total_56 : decode y_Sm_total.2.1 56 = .ok (.iload_n 1, 1) := by decide +kernel
theorem d_Sm_total_57 : decode y_Sm_total.2.1 57 = .ok (.invokevirtual 110, 3) := by decide +kernel
theorem d_Sm_total_60 : decode y_Sm_total.2.1 60 = .ok (.aload_n 0, 1) := by decide +kernel
theorem d_Sm_total_61 : decode y_Sm_total.2.1 61 = .ok (.iload 4, 2) := by decide +kernel
theorem d_Sm_total_63 : decode y_Sm_total.2.1 63 = .ok (.iload_n 1, 1) := by decide +kernel
theorem d_Sm_total_64 : decode y_Sm_total.2.1 64 = .ok (.invokevirtual 104, 3) := by decide +kernel
theorem d_Sm_total_67 : decode y_Sm_total.2.1 67 = .ok (.iadd, 1) := by decide +kernel
theorem d_Sm_total_68 : decode y_Sm_total.2.1 68 = .ok (.iadd, 1) := by decide +kernel
theorem d_Sm_total_69 : decode y_Sm_total.2.1 69 = .ok (.istore_n 3, 1) := by decide +kernel
theorem d_Sm_total_70 : decode y_Sm_total.2.1 70 = .ok (.iinc 4 1, 3) := by decide +kernel
theorem d_Sm_total_73 : decode y_Sm_total.2.1 73 = .ok (.goto (-36), 3) := by decide +kernel
theorem d_Sm_total_76 : decode y_Sm_total.2.1 76 = .ok (.iload_n 3, 1) := by decide +kernel
theorem d_Sm_total_77 : decode y_Sm_total.2.1 77 = .ok (.ireturn, 1) := by decide +kernel
theorem d_Sm_clear_0 : decode y_Sm_clear.2.1 0 = .ok (.aload_n 0, 1) := by decide +kernel
theorem d_Sm_clear_1 : decode y_Sm_clear.2.1 1 = .ok (.getfield 9, 3) := by decide +kernel
theorem d_Sm_clear_4 : decode y_Sm_clear.2.1 4 = .ok (.iconst 0, 1) := by decide +kernel
theorem d_Sm_clear_5 : decode y_Sm_clear.2.1 5 = .ok (.invokestatic 119, 3) := by decide +kernel
theorem d_Sm_clear_8 : decode y_Sm_clear.2.1 8 = .ok (.aload_n 0, 1) := by decide +kernel
theorem d_Sm_clear_9 : decode y_Sm_clear.2.1 9 = .ok (.getfield 15, 3) := by decide +kernel
theorem d_Sm_clear_12 : decode y_Sm_clear.2.1 12 = .ok (.iconst 0, 1) := by decide +kernel
theorem d_Sm_clear_13 : decode y_Sm_clear.2.1 13 = .ok (.invokestatic 119, 3) := by decide +kernel
theorem d_Sm_clear_16 : decode y_Sm_clear.2.1 16 = .ok (.aload_n 0, 1) := by decide +kernel
theorem d_Sm_clear_17 : decode y_Sm_clear.2.1 17 = .ok (.getfield 21, 3) := by decide +kernel
theorem d_Sm_clear_20 : decode y_Sm_clear.2.1 20 = .ok (.iconst 0, 1) := by decide +kernel
theorem d_Sm_clear_21 : decode y_Sm_clear.2.1 21 = .ok (.invokestatic 119, 3) := by decide +kernel
theorem d_Sm_clear_24 : decode y_Sm_clear.2.1 24 = .ok (.aload_n 0, 1) := by decide +kernel
theorem d_Sm_clear_25 : decode y_Sm_clear.2.1 25 = .ok (.getfield 24, 3) := by decide +kernel
theorem d_Sm_clear_28 : decode y_Sm_clear.2.1 28 = .ok (.iconst (-1), 1) := by decide +kernel
theorem d_Sm_clear_29 : decode y_Sm_clear.2.1 29 = .ok (.invokestatic 119, 3) := by decide +kernel
theorem d_Sm_clear_32 : decode y_Sm_clear.2.1 32 = .ok (.return_, 1) := by decide +kernel
theorem d_Sm_turnFans_0 : decode y_Sm_turnFans.2.1 0 = .ok (.aload_n 0, 1) := by decide +kernel
theorem d_Sm_turnFans_1 : decode y_Sm_turnFans.2.1 1 = .ok (.getfield 27, 3) := by decide +kernel
theorem d_Sm_turnFans_4 : decode y_Sm_turnFans.2.1 4 = .ok (.iconst 0, 1) := by decide +kernel
theorem d_Sm_turnFans_5 : decode y_Sm_turnFans.2.1 5 = .ok (.invokestatic 119, 3) := by decide +kernel
theorem d_Sm_turnFans_8 : decode y_Sm_turnFans.2.1 8 = .ok (.aload_n 0, 1) := by decide +kernel
theorem d_Sm_turnFans_9 : decode y_Sm_turnFans.2.1 9 = .ok (.getfield 30, 3) := by decide +kernel
theorem d_Sm_turnFans_12 : decode y_Sm_turnFans.2.1 12 = .ok (.iconst (-1), 1) := by decide +kernel
theorem d_Sm_turnFans_13 : decode y_Sm_turnFans.2.1 13 = .ok (.invokestatic 119, 3) := by decide +kernel
theorem d_Sm_turnFans_16 : decode y_Sm_turnFans.2.1 16 = .ok (.iconst 0, 1) := by decide +kernel
theorem d_Sm_turnFans_17 : decode y_Sm_turnFans.2.1 17 = .ok (.istore 4, 2) := by decide +kernel
theorem d_Sm_turnFans_19 : decode y_Sm_turnFans.2.1 19 = .ok (.iload 4, 2) := by decide +kernel
theorem d_Sm_turnFans_21 : decode y_Sm_turnFans.2.1 21 = .ok (.aload_n 0, 1) := by decide +kernel
theorem d_Sm_turnFans_22 : decode y_Sm_turnFans.2.1 22 = .ok (.getfield 46, 3) := by decide +kernel
theorem d_Sm_turnFans_25 : decode y_Sm_turnFans.2.1 25 = .ok (.getfield 125, 3) := by decide +kernel
theorem d_Sm_turnFans_28 : decode y_Sm_turnFans.2.1 28 = .ok (.invokevirtual 116, 3) := by decide +kernel
theorem d_Sm_turnFans_31 : decode y_Sm_turnFans.2.1 31 = .ok (.if_icmp .ge 161, 3) := by decide +kernel
theorem d_Sm_turnFans_34 : decode y_Sm_turnFans.2.1 34 = .ok (.aload_n 0, 1) := by decide +kernel
theorem d_Sm_turnFans_35 : decode y_Sm_turnFans.2.1 35 = .ok (.getfield 46, 3) := by decide +kernel
theorem d_Sm_turnFans_38 : decode y_Sm_turnFans.2.1 38 = .ok (.getfield 125, 3) := by decide +kernel
theorem d_Sm_turnFans_41 : decode y_Sm_turnFans.2.1 41 = .ok (.iload 4, 2) := by decide +kernel
theorem d_Sm_turnFans_43 : decode y_Sm_turnFans.2.1 43 = .ok (.iconst 0, 1) := by decide +kernel
theorem d_Sm_turnFans_44 : decode y_Sm_turnFans.2.1 44 = .ok (.invokevirtual 92, 3) := by decide +kernel
theorem d_Sm_turnFans_47 : decode y_Sm_turnFans.2.1 47 = .ok (.istore 5, 2) := by decide +kernel
theorem d_Sm_turnFans_49 : decode y_Sm_turnFans.2.1 49 = .ok (.aload_n 0, 1) := by decide +kernel
theorem d_Sm_turnFans_50 : decode y_Sm_turnFans.2.1 50 = .ok (.getfield 46, 3) := by decide +kernel
theorem d_Sm_turnFans_53 : decode y_Sm_turnFans.2.1 53 = .ok (.getfield 125, 3) := by decide +kernel
theorem d_Sm_turnFans_56 : decode y_Sm_turnFans.2.1 56 = .ok (.iload 4, 2) := by decide +kernel
theorem d_Sm_turnFans_58 : decode y_Sm_turnFans.2.1 58 = .ok (.iconst 1, 1) := by decide +kernel
theorem d_Sm_turnFans_59 : decode y_Sm_turnFans.2.1 59 = .ok (.invokevirtual 92, 3) := by decide +kernel
theorem d_Sm_turnFans_62 : decode y_Sm_turnFans.2.1 62 = .ok (.istore 6, 2) := by decide +kernel
theorem d_Sm_turnFans_64 : decode y_Sm_turnFans.2.1 64 = .ok (.aload_n 0, 1) := by decide +kernel
theorem d_Sm_turnFans_65 : decode y_Sm_turnFans.2.1 65 = .ok (.getfield 46, 3) := by decide +kernel
theorem d_Sm_turnFans_68 : decode y_Sm_turnFans.2.1 68 = .ok (.getfield 125, 3) := by decide +kernel
theorem d_Sm_turnFans_71 : decode y_Sm_turnFans.2.1 71 = .ok (.iload 4, 2) := by decide +kernel
theorem d_Sm_turnFans_73 : decode y_Sm_turnFans.2.1 73 = .ok (.iconst 2, 1) := by decide +kernel
theorem d_Sm_turnFans_74 : decode y_Sm_turnFans.2.1 74 = .ok (.invokevirtual 92, 3) := by decide +kernel
theorem d_Sm_turnFans_77 : decode y_Sm_turnFans.2.1 77 = .ok (.istore 7, 2) := by decide +kernel
theorem d_Sm_turnFans_79 : decode y_Sm_turnFans.2.1 79 = .ok (.iload 7, 2) := by decide +kernel
theorem d_Sm_turnFans_81 : decode y_Sm_turnFans.2.1 81 = .ok (.ifCond .lt 105, 3) := by decide +kernel
theorem d_Sm_turnFans_84 : decode y_Sm_turnFans.2.1 84 = .ok (.aload_n 0, 1) := by decide +kernel
theorem d_Sm_turnFans_85 : decode y_Sm_turnFans.2.1 85 = .ok (.getfield 46, 3) := by decide +kernel
theorem d_Sm_turnFans_88 : decode y_Sm_turnFans.2.1 88 = .ok (.getfield 128, 3) := by decide +kernel
theorem d_Sm_turnFans_91 : decode y_Sm_turnFans.2.1 91 = .ok (.iload 6, 2) := by decide +kernel
theorem d_Sm_turnFans_93 : decode y_Sm_turnFans.2.1 93 = .ok (.invokevirtual 131, 3) := by decide +kernel
theorem d_Sm_turnFans_96 : decode y_Sm_turnFans.2.1 96 = .ok (.ifCond .ne 6, 3) := by decide +kernel
theorem d_Sm_turnFans_99 : decode y_Sm_turnFans.2.1 99 = .ok (.goto 87, 3) := by decide +kernel
theorem d_Sm_turnFans_102 : decode y_Sm_turnFans.2.1 102 = .ok (.iload 7, 2) := by decide +kernel
theorem d_Sm_turnFans_104 : decode y_Sm_turnFans.2.1 104 = .ok (.istore 8, 2) := by decide +kernel
theorem d_Sm_turnFans_106 : decode y_Sm_turnFans.2.1 106 = .ok (.iload 8, 2) := by decide +kernel
theorem d_Sm_turnFans_108 : decode y_Sm_turnFans.2.1 108 = .ok (.bipush 21, 2) := by decide +kernel
theorem d_Sm_turnFans_110 : decode y_Sm_turnFans.2.1 110 = .ok (.if_icmp .ge 76, 3) := by decide +kernel
theorem d_Sm_turnFans_113 : decode y_Sm_turnFans.2.1 113 = .ok (.iload 8, 2) := by decide +kernel
theorem d_Sm_turnFans_115 : decode y_Sm_turnFans.2.1 115 = .ok (.bipush 8, 2) := by decide +kernel
theorem d_Sm_turnFans_117 : decode y_Sm_turnFans.2.1 117 = .ok (.imul, 1) := by decide +kernel
theorem d_Sm_turnFans_118 : decode y_Sm_turnFans.2.1 118 = .ok (.iload 6, 2) := by decide +kernel
theorem d_Sm_turnFans_120 : decode y_Sm_turnFans.2.1 120 = .ok (.iadd, 1) := by decide +kernel
theorem d_Sm_turnFans_121 : decode y_Sm_turnFans.2.1 121 = .ok (.istore 9, 2) := by decide +kernel
theorem d_Sm_turnFans_123 : decode y_Sm_turnFans.2.1 123 = .ok (.iload 8, 2) := by decide +kernel
theorem d_Sm_turnFans_125 : decode y_Sm_turnFans.2.1 125 = .ok (.iload_n 3, 1) := by decide +kernel
theorem d_Sm_turnFans_126 : decode y_Sm_turnFans.2.1 126 = .ok (.if_icmp .ge 7, 3) := by decide +kernel
theorem d_Sm_turnFans_129 : decode y_Sm_turnFans.2.1 129 = .ok (.iload_n 1, 1) := by decide +kernel
theorem d_Sm_turnFans_130 : decode y_Sm_turnFans.2.1 130 = .ok (.goto 4, 3) := by decide +kernel
theorem d_Sm_turnFans_133 : decode y_Sm_turnFans.2.1 133 = .ok (.iload_n 2, 1) := by decide +kernel
theorem d_Sm_turnFans_134 : decode y_Sm_turnFans.2.1 134 = .ok (.iload 5, 2) := by decide +kernel
theorem d_Sm_turnFans_136 : decode y_Sm_turnFans.2.1 136 = .ok (.if_icmp .ne 44, 3) := by decide +kernel
theorem d_Sm_turnFans_139 : decode y_Sm_turnFans.2.1 139 = .ok (.iload 7, 2) := by decide +kernel
theorem d_Sm_turnFans_141 : decode y_Sm_turnFans.2.1 141 = .ok (.aload_n 0, 1) := by decide +kernel
theorem d_Sm_turnFans_142 : decode y_Sm_turnFans.2.1 142 = .ok (.getfield 30, 3) := by decide +kernel
theorem d_Sm_turnFans_145 : decode y_Sm_turnFans.2.1 145 = .ok (.iload 9, 2) := by decide +kernel
theorem d_Sm_turnFans_147 : decode y_Sm_turnFans.2.1 147 = .ok (.iaload, 1) := by decide +kernel
theorem d_Sm_turnFans_148 : decode y_Sm_turnFans.2.1 148 = .ok (.if_icmp .lt 32, 3) := by decide +kernel
theorem d_Sm_turnFans_151 : decode y_Sm_turnFans.2.1 151 = .ok (.aload_n 0, 1) := by decide +kernel
theorem d_Sm_turnFans_152 : decode y_Sm_turnFans.2.1 152 = .ok (.getfield 30, 3) := by decide +kernel
theorem d_Sm_turnFans_155 : decode y_Sm_turnFans.2.1 155 = .ok (.iload 9, 2) := by decide +kernel
theorem d_Sm_turnFans_157 : decode y_Sm_turnFans.2.1 157 = .ok (.iload 7, 2) := by decide +kernel
theorem d_Sm_turnFans_159 : decode y_Sm_turnFans.2.1 159 = .ok (.iastore, 1) := by decide +kernel
theorem d_Sm_turnFans_160 : decode y_Sm_turnFans.2.1 160 = .ok (.aload_n 0, 1) := by decide +kernel
theorem d_Sm_turnFans_161 : decode y_Sm_turnFans.2.1 161 = .ok (.getfield 27, 3) := by decide +kernel
theorem d_Sm_turnFans_164 : decode y_Sm_turnFans.2.1 164 = .ok (.iload 9, 2) := by decide +kernel
theorem d_Sm_turnFans_166 : decode y_Sm_turnFans.2.1 166 = .ok (.aload_n 0, 1) := by decide +kernel
theorem d_Sm_turnFans_167 : decode y_Sm_turnFans.2.1 167 = .ok (.getfield 46, 3) := by decide +kernel
theorem d_Sm_turnFans_170 : decode y_Sm_turnFans.2.1 170 = .ok (.getfield 125, 3) := by decide +kernel
theorem d_Sm_turnFans_173 : decode y_Sm_turnFans.2.1 173 = .ok (.iload 4, 2) := by decide +kernel
theorem d_Sm_turnFans_175 : decode y_Sm_turnFans.2.1 175 = .ok (.iconst 3, 1) := by decide +kernel
theorem d_Sm_turnFans_176 : decode y_Sm_turnFans.2.1 176 = .ok (.invokevirtual 92, 3) := by decide +kernel
theorem d_Sm_turnFans_179 : decode y_Sm_turnFans.2.1 179 = .ok (.iastore, 1) := by decide +kernel
theorem d_Sm_turnFans_180 : decode y_Sm_turnFans.2.1 180 = .ok (.iinc 8 1, 3) := by decide +kernel
theorem d_Sm_turnFans_183 : decode y_Sm_turnFans.2.1 183 = .ok (.goto (-77), 3) := by decide +kernel
theorem d_Sm_turnFans_186 : decode y_Sm_turnFans.2.1 186 = .ok (.iinc 4 1, 3) := by decide +kernel
theorem d_Sm_turnFans_189 : decode y_Sm_turnFans.2.1 189 = .ok (.goto (-170), 3) := by decide +kernel
theorem d_Sm_turnFans_192 : decode y_Sm_turnFans.2.1 192 = .ok (.return_, 1) := by decide +kernel
theorem d_Sm_loseFans_0 : decode y_Sm_loseFans.2.1 0 = .ok (.iconst 0, 1) := by decide +kernel
theorem d_Sm_loseFans_1 : decode y_Sm_loseFans.2.1 1 = .ok (.istore_n 2, 1) := by decide +kernel
theorem d_Sm_loseFans_2 : decode y_Sm_loseFans.2.1 2 = .ok (.iload_n 1, 1) := by decide +kernel
theorem d_Sm_loseFans_3 : decode y_Sm_loseFans.2.1 3 = .ok (.ifCond .le 51, 3) := by decide +kernel
theorem d_Sm_loseFans_6 : decode y_Sm_loseFans.2.1 6 = .ok (.iload_n 2, 1) := by decide +kernel
theorem d_Sm_loseFans_7 : decode y_Sm_loseFans.2.1 7 = .ok (.aload_n 0, 1) := by decide +kernel
theorem d_Sm_loseFans_8 : decode y_Sm_loseFans.2.1 8 = .ok (.getfield 46, 3) := by decide +kernel
theorem d_Sm_loseFans_11 : decode y_Sm_loseFans.2.1 11 = .ok (.getfield 128, 3) := by decide +kernel
theorem d_Sm_loseFans_14 : decode y_Sm_loseFans.2.1 14 = .ok (.invokevirtual 116, 3) := by decide +kernel
theorem d_Sm_loseFans_17 : decode y_Sm_loseFans.2.1 17 = .ok (.if_icmp .ge 37, 3) := by decide +kernel
theorem d_Sm_loseFans_20 : decode y_Sm_loseFans.2.1 20 = .ok (.aload_n 0, 1) := by decide +kernel
theorem d_Sm_loseFans_21 : decode y_Sm_loseFans.2.1 21 = .ok (.getfield 24, 3) := by decide +kernel
theorem d_Sm_loseFans_24 : decode y_Sm_loseFans.2.1 24 = .ok (.iload_n 2, 1) := by decide +kernel
theorem d_Sm_loseFans_25 : decode y_Sm_loseFans.2.1 25 = .ok (.iaload, 1) := by decide +kernel
theorem d_Sm_loseFans_26 : decode y_Sm_loseFans.2.1 26 = .ok (.iconst (-1), 1) := by decide +kernel
theorem d_Sm_loseFans_27 : decode y_Sm_loseFans.2.1 27 = .ok (.if_icmp .ne 21, 3) := by decide +kernel
theorem d_Sm_loseFans_30 : decode y_Sm_loseFans.2.1 30 = .ok (.aload_n 0, 1) := by decide +kernel
theorem d_Sm_loseFans_31 : decode y_Sm_loseFans.2.1 31 = .ok (.iload_n 2, 1) := by decide +kernel
theorem d_Sm_loseFans_32 : decode y_Sm_loseFans.2.1 32 = .ok (.iload_n 1, 1) := by decide +kernel
theorem d_Sm_loseFans_33 : decode y_Sm_loseFans.2.1 33 = .ok (.iconst 1, 1) := by decide +kernel
theorem d_Sm_loseFans_34 : decode y_Sm_loseFans.2.1 34 = .ok (.isub, 1) := by decide +kernel
theorem d_Sm_loseFans_35 : decode y_Sm_loseFans.2.1 35 = .ok (.invokevirtual 135, 3) := by decide +kernel
theorem d_Sm_loseFans_38 : decode y_Sm_loseFans.2.1 38 = .ok (.ifCond .eq 10, 3) := by decide +kernel
theorem d_Sm_loseFans_41 : decode y_Sm_loseFans.2.1 41 = .ok (.aload_n 0, 1) := by decide +kernel
theorem d_Sm_loseFans_42 : decode y_Sm_loseFans.2.1 42 = .ok (.getfield 24, 3) := by decide +kernel
theorem d_Sm_loseFans_45 : decode y_Sm_loseFans.2.1 45 = .ok (.iload_n 2, 1) := by decide +kernel
theorem d_Sm_loseFans_46 : decode y_Sm_loseFans.2.1 46 = .ok (.iload_n 1, 1) := by decide +kernel
theorem d_Sm_loseFans_47 : decode y_Sm_loseFans.2.1 47 = .ok (.iastore, 1) := by decide +kernel
theorem d_Sm_loseFans_48 : decode y_Sm_loseFans.2.1 48 = .ok (.iinc 2 1, 3) := by decide +kernel
theorem d_Sm_loseFans_51 : decode y_Sm_loseFans.2.1 51 = .ok (.goto (-49), 3) := by decide +kernel
theorem d_Sm_loseFans_54 : decode y_Sm_loseFans.2.1 54 = .ok (.return_, 1) := by decide +kernel
theorem d_Sm_isTooMuch_0 : decode y_Sm_isTooMuch.2.1 0 = .ok (.aload_n 0, 1) := by decide +kernel
theorem d_Sm_isTooMuch_1 : decode y_Sm_isTooMuch.2.1 1 = .ok (.getfield 46, 3) := by decide +kernel
theorem d_Sm_isTooMuch_4 : decode y_Sm_isTooMuch.2.1 4 = .ok (.getfield 128, 3) := by decide +kernel
theorem d_Sm_isTooMuch_7 : decode y_Sm_isTooMuch.2.1 7 = .ok (.iload_n 1, 1) := by decide +kernel
theorem d_Sm_isTooMuch_8 : decode y_Sm_isTooMuch.2.1 8 = .ok (.iconst 0, 1) := by decide +kernel
theorem d_Sm_isTooMuch_9 : decode y_Sm_isTooMuch.2.1 9 = .ok (.invokevirtual 92, 3) := by decide +kernel
theorem d_Sm_isTooMuch_12 : decode y_Sm_isTooMuch.2.1 12 = .ok (.istore_n 3, 1) := by decide +kernel
theorem d_Sm_isTooMuch_13 : decode y_Sm_isTooMuch.2.1 13 = .ok (.aload_n 0, 1) := by decide +kernel
theorem d_Sm_isTooMuch_14 : decode y_Sm_isTooMuch.2.1 14 = .ok (.getfield 46, 3) := by decide +kernel
theorem d_Sm_isTooMuch_17 : decode y_Sm_isTooMuch.2.1 17 = .ok (.getfield 128, 3) := by decide +kernel
theorem d_Sm_isTooMuch_20 : decode y_Sm_isTooMuch.2.1 20 = .ok (.iload_n 1, 1) := by decide +kernel
theorem d_Sm_isTooMuch_21 : decode y_Sm_isTooMuch.2.1 21 = .ok (.iconst 3, 1) := by decide +kernel
theorem d_Sm_isTooMuch_22 : decode y_Sm_isTooMuch.2.1 22 = .ok (.invokevirtual 92, 3) := by decide +kernel
theorem d_Sm_isTooMuch_25 : decode y_Sm_isTooMuch.2.1 25 = .ok (.iconst 1, 1) := by decide +kernel
theorem d_Sm_isTooMuch_26 : decode y_Sm_isTooMuch.2.1 26 = .ok (.aload_n 0, 1) := by decide +kernel
theorem d_Sm_isTooMuch_27 : decode y_Sm_isTooMuch.2.1 27 = .ok (.getfield 46, 3) := by decide +kernel
theorem d_Sm_isTooMuch_30 : decode y_Sm_isTooMuch.2.1 30 = .ok (.getfield 139, 3) := by decide +kernel
theorem d_Sm_isTooMuch_33 : decode y_Sm_isTooMuch.2.1 33 = .ok (.iload_n 3, 1) := by decide +kernel
theorem d_Sm_isTooMuch_34 : decode y_Sm_isTooMuch.2.1 34 = .ok (.iconst 0, 1) := by decide +kernel
theorem d_Sm_isTooMuch_35 : decode y_Sm_isTooMuch.2.1 35 = .ok (.invokevirtual 92, 3) := by decide +kernel
theorem d_Sm_isTooMuch_38 : decode y_Sm_isTooMuch.2.1 38 = .ok (.ishl, 1) := by decide +kernel
theorem d_Sm_isTooMuch_39 : decode y_Sm_isTooMuch.2.1 39 = .ok (.ior, 1) := by decide +kernel
theorem d_Sm_isTooMuch_40 : decode y_Sm_isTooMuch.2.1 40 = .ok (.iconst 1, 1) := by decide +kernel
theorem d_Sm_isTooMuch_41 : decode y_Sm_isTooMuch.2.1 41 = .ok (.aload_n 0, 1) := by decide +kernel
theorem d_Sm_isTooMuch_42 : decode y_Sm_isTooMuch.2.1 42 = .ok (.getfield 46, 3) := by decide +kernel
theorem d_Sm_isTooMuch_45 : decode y_Sm_isTooMuch.2.1 45 = .ok (.getfield 139, 3) := by decide +kernel
theorem d_Sm_isTooMuch_48 : decode y_Sm_isTooMuch.2.1 48 = .ok (.iload_n 3, 1) := by decide +kernel
theorem d_Sm_isTooMuch_49 : decode y_Sm_isTooMuch.2.1 49 = .ok (.iconst 1, 1) := by decide +kernel
theorem d_Sm_isTooMuch_50 : decode y_Sm_isTooMuch.2.1 50 = .ok (.invokevirtual 92, 3) := by decide +kernel
theorem d_Sm_isTooMuch_53 : decode y_Sm_isTooMuch.2.1 53 = .ok (.ishl, 1) := by decide +kernel
theorem d_Sm_isTooMuch_54 : decode y_Sm_isTooMuch.2.1 54 = .ok (.ior, 1) := by decide +kernel
theorem d_Sm_isTooMuch_55 : decode y_Sm_isTooMuch.2.1 55 = .ok (.istore 4, 2) := by decide +kernel
theorem d_Sm_isTooMuch_57 : decode y_Sm_isTooMuch.2.1 57 = .ok (.aload_n 0, 1) := by decide +kernel
theorem d_Sm_isTooMuch_58 : decode y_Sm_isTooMuch.2.1 58 = .ok (.getfield 46, 3) := by decide +kernel
theorem d_Sm_isTooMuch_61 : decode y_Sm_isTooMuch.2.1 61 = .ok (.getfield 128, 3) := by decide +kernel
theorem d_Sm_isTooMuch_64 : decode y_Sm_isTooMuch.2.1 64 = .ok (.iload_n 1, 1) := by decide +kernel
theorem d_Sm_isTooMuch_65 : decode y_Sm_isTooMuch.2.1 65 = .ok (.iconst 2, 1) := by decide +kernel
theorem d_Sm_isTooMuch_66 : decode y_Sm_isTooMuch.2.1 66 = .ok (.invokevirtual 92, 3) := by decide +kernel
theorem d_Sm_isTooMuch_69 : decode y_Sm_isTooMuch.2.1 69 = .ok (.istore 5, 2) := by decide +kernel
theorem d_Sm_isTooMuch_71 : decode y_Sm_isTooMuch.2.1 71 = .ok (.iconst 0, 1) := by decide +kernel
theorem d_Sm_isTooMuch_72 : decode y_Sm_isTooMuch.2.1 72 = .ok (.istore 6, 2) := by decide +kernel
theorem d_Sm_isTooMuch_74 : decode y_Sm_isTooMuch.2.1 74 = .ok (.iload 6, 2) := by decide +kernel
theorem d_Sm_isTooMuch_76 : decode y_Sm_isTooMuch.2.1 76 = .ok (.aload_n 0, 1) := by decide +kernel
theorem d_Sm_isTooMuch_77 : decode y_Sm_isTooMuch.2.1 77 = .ok (.getfield 46, 3) := by decide +kernel
theorem d_Sm_isTooMuch_80 : decode y_Sm_isTooMuch.2.1 80 = .ok (.getfield 113, 3) := by decide +kernel
theorem d_Sm_isTooMuch_83 : decode y_Sm_isTooMuch.2.1 83 = .ok (.invokevirtual 116, 3) := by decide +kernel
theorem d_Sm_isTooMuch_86 : decode y_Sm_isTooMuch.2.1 86 = .ok (.if_icmp .ge 34, 3) := by decide +kernel
theorem d_Sm_isTooMuch_89 : decode y_Sm_isTooMuch.2.1 89 = .ok (.iload 4, 2) := by decide +kernel
theorem d_Sm_isTooMuch_91 : decode y_Sm_isTooMuch.2.1 91 = .ok (.iload 6, 2) := by decide +kernel
theorem d_Sm_isTooMuch_93 : decode y_Sm_isTooMuch.2.1 93 = .ok (.ishr, 1) := by decide +kernel
theorem d_Sm_isTooMuch_94 : decode y_Sm_isTooMuch.2.1 94 = .ok (.iconst 1, 1) := by decide +kernel
theorem d_Sm_isTooMuch_95 : decode y_Sm_isTooMuch.2.1 95 = .ok (.iand, 1) := by decide +kernel
theorem d_Sm_isTooMuch_96 : decode y_Sm_isTooMuch.2.1 96 = .ok (.iconst 1, 1) := by decide +kernel
theorem d_Sm_isTooMuch_97 : decode y_Sm_isTooMuch.2.1 97 = .ok (.if_icmp .ne 17, 3) := by decide +kernel
theorem d_Sm_isTooMuch_100 : decode y_Sm_isTooMuch.2.1 100 = .ok (.aload_n 0, 1) := by decide +kernel
theorem d_Sm_isTooMuch_101 : decode y_Sm_isTooMuch.2.1 101 = .ok (.iload 6, 2) := by decide +kernel
theorem d_Sm_isTooMuch_103 : decode y_Sm_isTooMuch.2.1 103 = .ok (.iload_n 2, 1) := by decide +kernel
theorem d_Sm_isTooMuch_104 : decode y_Sm_isTooMuch.2.1 104 = .ok (.invokevirtual 110, 3) := by decide +kernel
theorem d_Sm_isTooMuch_107 : decode y_Sm_isTooMuch.2.1 107 = .ok (.iload 5, 2) := by decide +kernel
theorem d_Sm_isTooMuch_109 : decode y_Sm_isTooMuch.2.1 109 = .ok (.if_icmp .lt 5, 3) := by decide +kernel
theorem d_Sm_isTooMuch_112 : decode y_Sm_isTooMuch.2.1 112 = .ok (.iconst 1, 1) := by decide +kernel
theorem d_Sm_isTooMuch_113 : decode y_Sm_isTooMuch.2.1 113 = .ok (.ireturn, 1) := by decide +kernel
theorem d_Sm_isTooMuch_114 : decode y_Sm_isTooMuch.2.1 114 = .ok (.iinc 6 1, 3) := by decide +kernel
theorem d_Sm_isTooMuch_117 : decode y_Sm_isTooMuch.2.1 117 = .ok (.goto (-43), 3) := by decide +kernel
theorem d_Sm_isTooMuch_120 : decode y_Sm_isTooMuch.2.1 120 = .ok (.iconst 0, 1) := by decide +kernel
theorem d_Sm_isTooMuch_121 : decode y_Sm_isTooMuch.2.1 121 = .ok (.ireturn, 1) := by decide +kernel
theorem d_Sm_driveAir_0 : decode y_Sm_driveAir.2.1 0 = .ok (.iload_n 1, 1) := by decide +kernel
theorem d_Sm_driveAir_1 : decode y_Sm_driveAir.2.1 1 = .ok (.bipush 12, 2) := by decide +kernel
theorem d_Sm_driveAir_3 : decode y_Sm_driveAir.2.1 3 = .ok (.imul, 1) := by decide +kernel
theorem d_Sm_driveAir_4 : decode y_Sm_driveAir.2.1 4 = .ok (.istore_n 2, 1) := by decide +kernel
theorem d_Sm_driveAir_5 : decode y_Sm_driveAir.2.1 5 = .ok (.iconst 0, 1) := by decide +kernel
theorem d_Sm_driveAir_6 : decode y_Sm_driveAir.2.1 6 = .ok (.istore_n 3, 1) := by decide +kernel
theorem d_Sm_driveAir_7 : decode y_Sm_driveAir.2.1 7 = .ok (.iload_n 3, 1) := by decide +kernel
theorem d_Sm_driveAir_8 : decode y_Sm_driveAir.2.1 8 = .ok (.aload_n 0, 1) := by decide +kernel
theorem d_Sm_driveAir_9 : decode y_Sm_driveAir.2.1 9 = .ok (.getfield 46, 3) := by decide +kernel
theorem d_Sm_driveAir_12 : decode y_Sm_driveAir.2.1 12 = .ok (.getfield 139, 3) := by decide +kernel
theorem d_Sm_driveAir_15 : decode y_Sm_driveAir.2.1 15 = .ok (.invokevirtual 116, 3) := by decide +kernel
theorem d_Sm_driveAir_18 : decode y_Sm_driveAir.2.1 18 = .ok (.if_icmp .ge 29, 3) := by decide +kernel
theorem d_Sm_driveAir_21 : decode y_Sm_driveAir.2.1 21 = .ok (.aload_n 0, 1) := by decide +kernel
theorem d_Sm_driveAir_22 : decode y_Sm_driveAir.2.1 22 = .ok (.getfield 18, 3) := by decide +kernel
theorem d_Sm_driveAir_25 : decode y_Sm_driveAir.2.1 25 = .ok (.iload_n 2, 1) := by decide +kernel
theorem d_Sm_driveAir_26 : decode y_Sm_driveAir.2.1 26 = .ok (.iload_n 3, 1) := by decide +kernel
theorem d_Sm_driveAir_27 : decode y_Sm_driveAir.2.1 27 = .ok (.iadd, 1) := by decide +kernel
theorem d_Sm_driveAir_28 : decode y_Sm_driveAir.2.1 28 = .ok (.aload_n 0, 1) := by decide +kernel
theorem d_Sm_driveAir_29 : decode y_Sm_driveAir.2.1 29 = .ok (.getfield 46, 3) := by decide +kernel
theorem d_Sm_driveAir_32 : decode y_Sm_driveAir.2.1 32 = .ok (.getfield 139, 3) := by decide +kernel
theorem d_Sm_driveAir_35 : decode y_Sm_driveAir.2.1 35 = .ok (.iload_n 3, 1) := by decide +kernel
theorem d_Sm_driveAir_36 : decode y_Sm_driveAir.2.1 36 = .ok (.iconst 4, 1) := by decide +kernel
theorem d_Sm_driveAir_37 : decode y_Sm_driveAir.2.1 37 = .ok (.invokevirtual 92, 3) := by decide +kernel
theorem d_Sm_driveAir_40 : decode y_Sm_driveAir.2.1 40 = .ok (.iastore, 1) := by decide +kernel
theorem d_Sm_driveAir_41 : decode y_Sm_driveAir.2.1 41 = .ok (.iinc 3 1, 3) := by decide +kernel
theorem d_Sm_driveAir_44 : decode y_Sm_driveAir.2.1 44 = .ok (.goto (-37), 3) := by decide +kernel
theorem d_Sm_driveAir_47 : decode y_Sm_driveAir.2.1 47 = .ok (.iconst 0, 1) := by decide +kernel
theorem d_Sm_driveAir_48 : decode y_Sm_driveAir.2.1 48 = .ok (.istore_n 3, 1) := by decide +kernel
theorem d_Sm_driveAir_49 : decode y_Sm_driveAir.2.1 49 = .ok (.iload_n 3, 1) := by decide +kernel
theorem d_Sm_driveAir_50 : decode y_Sm_driveAir.2.1 50 = .ok (.aload_n 0, 1) := by decide +kernel
theorem d_Sm_driveAir_51 : decode y_Sm_driveAir.2.1 51 = .ok (.getfield 46, 3) := by decide +kernel
theorem d_Sm_driveAir_54 : decode y_Sm_driveAir.2.1 54 = .ok (.getfield 128, 3) := by decide +kernel
theorem d_Sm_driveAir_57 : decode y_Sm_driveAir.2.1 57 = .ok (.invokevirtual 116, 3) := by decide +kernel
theorem d_Sm_driveAir_60 : decode y_Sm_driveAir.2.1 60 = .ok (.if_icmp .ge 84, 3) := by decide +kernel
theorem d_Sm_driveAir_63 : decode y_Sm_driveAir.2.1 63 = .ok (.aload_n 0, 1) := by decide +kernel
theorem d_Sm_driveAir_64 : decode y_Sm_driveAir.2.1 64 = .ok (.getfield 46, 3) := by decide +kernel
theorem d_Sm_driveAir_67 : decode y_Sm_driveAir.2.1 67 = .ok (.getfield 128, 3) := by decide +kernel
theorem d_Sm_driveAir_70 : decode y_Sm_driveAir.2.1 70 = .ok (.iload_n 3, 1) := by decide +kernel
theorem d_Sm_driveAir_71 : decode y_Sm_driveAir.2.1 71 = .ok (.iconst 0, 1) := by decide +kernel
theorem d_Sm_driveAir_72 : decode y_Sm_driveAir.2.1 72 = .ok (.invokevirtual 92, 3) := by decide +kernel
theorem d_Sm_driveAir_75 : decode y_Sm_driveAir.2.1 75 = .ok (.istore 4, 2) := by decide +kernel
theorem d_Sm_driveAir_77 : decode y_Sm_driveAir.2.1 77 = .ok (.aload_n 0, 1) := by decide +kernel
theorem d_Sm_driveAir_78 : decode y_Sm_driveAir.2.1 78 = .ok (.getfield 24, 3) := by decide +kernel
theorem d_Sm_driveAir_81 : decode y_Sm_driveAir.2.1 81 = .ok (.iload_n 3, 1) := by decide +kernel
theorem d_Sm_driveAir_82 : decode y_Sm_driveAir.2.1 82 = .ok (.iaload, 1) := by decide +kernel
theorem d_Sm_driveAir_83 : decode y_Sm_driveAir.2.1 83 = .ok (.iconst (-1), 1) := by decide +kernel
theorem d_Sm_driveAir_84 : decode y_Sm_driveAir.2.1 84 = .ok (.if_icmp .ne 54, 3) := by decide +kernel
theorem d_Sm_driveAir_87 : decode y_Sm_driveAir.2.1 87 = .ok (.aload_n 0, 1) := by decide +kernel
theorem d_Sm_driveAir_88 : decode y_Sm_driveAir.2.1 88 = .ok (.getfield 46, 3) := by decide +kernel
theorem d_Sm_driveAir_91 : decode y_Sm_driveAir.2.1 91 = .ok (.getfield 139, 3) := by decide +kernel
theorem d_Sm_driveAir_94 : decode y_Sm_driveAir.2.1 94 = .ok (.iload 4, 2) := by decide +kernel
theorem d_Sm_driveAir_96 : decode y_Sm_driveAir.2.1 96 = .ok (.invokevirtual 131, 3) := by decide +kernel
theorem d_Sm_driveAir_99 : decode y_Sm_driveAir.2.1 99 = .ok (.ifCond .eq 39, 3) := by decide +kernel
theorem d_Sm_driveAir_102 : decode y_Sm_driveAir.2.1 102 = .ok (.aload_n 0, 1) := by decide +kernel
theorem d_Sm_driveAir_103 : decode y_Sm_driveAir.2.1 103 = .ok (.getfield 18, 3) := by decide +kernel
theorem d_Sm_driveAir_106 : decode y_Sm_driveAir.2.1 106 = .ok (.iload_n 2, 1) := by decide +kernel
theorem d_Sm_driveAir_107 : decode y_Sm_driveAir.2.1 107 = .ok (.iload 4, 2) := by decide +kernel
theorem d_Sm_driveAir_109 : decode y_Sm_driveAir.2.1 109 = .ok (.iadd, 1) := by decide +kernel
theorem d_Sm_driveAir_110 : decode y_Sm_driveAir.2.1 110 = .ok (.dup2, 1) := by decide +kernel
theorem d_Sm_driveAir_111 : decode y_Sm_driveAir.2.1 111 = .ok (.iaload, 1) := by decide +kernel
theorem d_Sm_driveAir_112 : decode y_Sm_driveAir.2.1 112 = .ok (.aload_n 0, 1) := by decide +kernel
theorem d_Sm_driveAir_113 : decode y_Sm_driveAir.2.1 113 = .ok (.getfield 46, 3) := by decide +kernel
theorem d_Sm_driveAir_116 : decode y_Sm_driveAir.2.1 116 = .ok (.getfield 128, 3) := by decide +kernel
theorem d_Sm_driveAir_119 : decode y_Sm_driveAir.2.1 119 = .ok (.iload_n 3, 1) := by decide +kernel
theorem d_Sm_driveAir_120 : decode y_Sm_driveAir.2.1 120 = .ok (.iconst 1, 1) := by decide +kernel
theorem d_Sm_driveAir_121 : decode y_Sm_driveAir.2.1 121 = .ok (.invokevirtual 92, 3) := by decide +kernel
theorem d_Sm_driveAir_124 : decode y_Sm_driveAir.2.1 124 = .ok (.aload_n 0, 1) := by decide +kernel
theorem d_Sm_driveAir_125 : decode y_Sm_driveAir.2.1 125 = .ok (.getfield 27, 3) := by decide +kernel
theorem d_Sm_driveAir_128 : decode y_Sm_driveAir.2.1 128 = .ok (.iload_n 1, 1) := by decide +kernel
theorem d_Sm_driveAir_129 : decode y_Sm_driveAir.2.1 129 = .ok (.bipush 8, 2) := by decide +kernel
theorem d_Sm_driveAir_131 : decode y_Sm_driveAir.2.1 131 = .ok (.imul, 1) := by decide +kernel
theorem d_Sm_driveAir_132 : decode y_Sm_driveAir.2.1 132 = .ok (.iload_n 3, 1) := by decide +kernel
theorem d_Sm_driveAir_133 : decode y_Sm_driveAir.2.1 133 = .ok (.iadd, 1) := by decide +kernel
theorem d_Sm_driveAir_134 : decode y_Sm_driveAir.2.1 134 = .ok (.iaload, 1) := by decide +kernel
theorem d_Sm_driveAir_135 : decode y_Sm_driveAir.2.1 135 = .ok (.imul, 1) := by decide +kernel
theorem d_Sm_driveAir_136 : decode y_Sm_driveAir.2.1 136 = .ok (.iadd, 1) := by decide +kernel
theorem d_Sm_driveAir_137 : decode y_Sm_driveAir.2.1 137 = .ok (.iastore, 1) := by decide +kernel
theorem d_Sm_driveAir_138 : decode y_Sm_driveAir.2.1 138 = .ok (.iinc 3 1, 3) := by decide +kernel
theorem d_Sm_driveAir_141 : decode y_Sm_driveAir.2.1 141 = .ok (.goto (-92), 3) := by decide +kernel
theorem d_Sm_driveAir_144 : decode y_Sm_driveAir.2.1 144 = .ok (.iconst 0, 1) := by decide +kernel
theorem d_Sm_driveAir_145 : decode y_Sm_driveAir.2.1 145 = .ok (.istore_n 3, 1) := by decide +kernel
theorem d_Sm_driveAir_146 : decode y_Sm_driveAir.2.1 146 = .ok (.iload_n 3, 1) := by decide +kernel
theorem d_Sm_driveAir_147 : decode y_Sm_driveAir.2.1 147 = .ok (.aload_n 0, 1) := by decide +kernel
theorem d_Sm_driveAir_148 : decode y_Sm_driveAir.2.1 148 = .ok (.getfield 46, 3) := by decide +kernel
theorem d_Sm_driveAir_151 : decode y_Sm_driveAir.2.1 151 = .ok (.getfield 139, 3) := by decide +kernel
theorem d_Sm_driveAir_154 : decode y_Sm_driveAir.2.1 154 = .ok (.invokevirtual 116, 3) := by decide +kernel
theorem d_Sm_driveAir_157 : decode y_Sm_driveAir.2.1 157 = .ok (.if_icmp .ge 35, 3) := by decide +kernel
theorem d_Sm_driveAir_160 : decode y_Sm_driveAir.2.1 160 = .ok (.aload_n 0, 1) := by decide +kernel
theorem d_Sm_driveAir_161 : decode y_Sm_driveAir.2.1 161 = .ok (.getfield 18, 3) := by decide +kernel
theorem d_Sm_driveAir_164 : decode y_Sm_driveAir.2.1 164 = .ok (.iload_n 2, 1) := by decide +kernel
theorem d_Sm_driveAir_165 : decode y_Sm_driveAir.2.1 165 = .ok (.iload_n 3, 1) := by decide +kernel
theorem d_Sm_driveAir_166 : decode y_Sm_driveAir.2.1 166 = .ok (.iadd, 1) := by decide +kernel
theorem d_Sm_driveAir_167 : decode y_Sm_driveAir.2.1 167 = .ok (.bipush (-12), 2) := by decide +kernel
theorem d_Sm_driveAir_169 : decode y_Sm_driveAir.2.1 169 = .ok (.bipush 12, 2) := by decide +kernel
theorem d_Sm_driveAir_171 : decode y_Sm_driveAir.2.1 171 = .ok (.aload_n 0, 1) := by decide +kernel
theorem d_Sm_driveAir_172 : decode y_Sm_driveAir.2.1 172 = .ok (.getfield 18, 3) := by decide +kernel
theorem d_Sm_driveAir_175 : decode y_Sm_driveAir.2.1 175 = .ok (.iload_n 2, 1) := by decide +kernel
theorem d_Sm_driveAir_176 : decode y_Sm_driveAir.2.1 176 = .ok (.iload_n 3, 1) := by decide +kernel
theorem d_Sm_driveAir_177 : decode y_Sm_driveAir.2.1 177 = .ok (.iadd, 1) := by decide +kernel
theorem d_Sm_driveAir_178 : decode y_Sm_driveAir.2.1 178 = .ok (.iaload, 1) := by decide +kernel
theorem d_Sm_driveAir_179 : decode y_Sm_driveAir.2.1 179 = .ok (.invokestatic 142, 3) := by decide +kernel
theorem d_Sm_driveAir_182 : decode y_Sm_driveAir.2.1 182 = .ok (.invokestatic 147, 3) := by decide +kernel
theorem d_Sm_driveAir_185 : decode y_Sm_driveAir.2.1 185 = .ok (.iastore, 1) := by decide +kernel
theorem d_Sm_driveAir_186 : decode y_Sm_driveAir.2.1 186 = .ok (.iinc 3 1, 3) := by decide +kernel
theorem d_Sm_driveAir_189 : decode y_Sm_driveAir.2.1 189 = .ok (.goto (-43), 3) := by decide +kernel
theorem d_Sm_driveAir_192 : decode y_Sm_driveAir.2.1 192 = .ok (.return_, 1) := by decide +kernel
theorem d_Sm_step_0 : decode y_Sm_step.2.1 0 = .ok (.aload_n 0, 1) := by decide +kernel
theorem d_Sm_step_1 : decode y_Sm_step.2.1 1 = .ok (.iload_n 1, 1) := by decide +kernel
theorem d_Sm_step_2 : decode y_Sm_step.2.1 2 = .ok (.iload_n 2, 1) := by decide +kernel
theorem d_Sm_step_3 : decode y_Sm_step.2.1 3 = .ok (.iload_n 3, 1) := by decide +kernel
theorem d_Sm_step_4 : decode y_Sm_step.2.1 4 = .ok (.invokevirtual 150, 3) := by decide +kernel
theorem d_Sm_step_7 : decode y_Sm_step.2.1 7 = .ok (.iconst 0, 1) := by decide +kernel
theorem d_Sm_step_8 : decode y_Sm_step.2.1 8 = .ok (.istore 4, 2) := by decide +kernel
theorem d_Sm_step_10 : decode y_Sm_step.2.1 10 = .ok (.iload 4, 2) := by decide +kernel
theorem d_Sm_step_12 : decode y_Sm_step.2.1 12 = .ok (.aload_n 0, 1) := by decide +kernel
theorem d_Sm_step_13 : decode y_Sm_step.2.1 13 = .ok (.getfield 46, 3) := by decide +kernel
theorem d_Sm_step_16 : decode y_Sm_step.2.1 16 = .ok (.getfield 139, 3) := by decide +kernel
theorem d_Sm_step_19 : decode y_Sm_step.2.1 19 = .ok (.invokevirtual 116, 3) := by decide +kernel
theorem d_Sm_step_22 : decode y_Sm_step.2.1 22 = .ok (.if_icmp .ge 106, 3) := by decide +kernel
theorem d_Sm_step_25 : decode y_Sm_step.2.1 25 = .ok (.aload_n 0, 1) := by decide +kernel
theorem d_Sm_step_26 : decode y_Sm_step.2.1 26 = .ok (.getfield 46, 3) := by decide +kernel
theorem d_Sm_step_29 : decode y_Sm_step.2.1 29 = .ok (.getfield 139, 3) := by decide +kernel
theorem d_Sm_step_32 : decode y_Sm_step.2.1 32 = .ok (.iload 4, 2) := by decide +kernel
theorem d_Sm_step_34 : decode y_Sm_step.2.1 34 = .ok (.iconst 0, 1) := by decide +kernel
theorem d_Sm_step_35 : decode y_Sm_step.2.1 35 = .ok (.invokevirtual 92, 3) := by decide +kernel
theorem d_Sm_step_38 : decode y_Sm_step.2.1 38 = .ok (.istore 5, 2) := by decide +kernel
theorem d_Sm_step_40 : decode y_Sm_step.2.1 40 = .ok (.aload_n 0, 1) := by decide +kernel
theorem d_Sm_step_41 : decode y_Sm_step.2.1 41 = .ok (.getfield 46, 3) := by decide +kernel
theorem d_Sm_step_44 : decode y_Sm_step.2.1 44 = .ok (.getfield 139, 3) := by decide +kernel
theorem d_Sm_step_47 : decode y_Sm_step.2.1 47 = .ok (.iload 4, 2) := by decide +kernel
theorem d_Sm_step_49 : decode y_Sm_step.2.1 49 = .ok (.iconst 1, 1) := by decide +kernel
theorem d_Sm_step_50 : decode y_Sm_step.2.1 50 = .ok (.invokevirtual 92, 3) := by decide +kernel
theorem d_Sm_step_53 : decode y_Sm_step.2.1 53 = .ok (.istore 6, 2) := by decide +kernel
theorem d_Sm_step_55 : decode y_Sm_step.2.1 55 = .ok (.aload_n 0, 1) := by decide +kernel
theorem d_Sm_step_56 : decode y_Sm_step.2.1 56 = .ok (.getfield 18, 3) := by decide +kernel
theorem d_Sm_step_59 : decode y_Sm_step.2.1 59 = .ok (.iload_n 1, 1) := by decide +kernel
theorem d_Sm_step_60 : decode y_Sm_step.2.1 60 = .ok (.bipush 12, 2) := by decide +kernel
theorem d_Sm_step_62 : decode y_Sm_step.2.1 62 = .ok (.imul, 1) := by decide +kernel
theorem d_Sm_step_63 : decode y_Sm_step.2.1 63 = .ok (.iload 4, 2) := by decide +kernel
theorem d_Sm_step_65 : decode y_Sm_step.2.1 65 = .ok (.iadd, 1) := by decide +kernel
theorem d_Sm_step_66 : decode y_Sm_step.2.1 66 = .ok (.iaload, 1) := by decide +kernel
theorem d_Sm_step_67 : decode y_Sm_step.2.1 67 = .ok (.istore 7, 2) := by decide +kernel
theorem d_Sm_step_69 : decode y_Sm_step.2.1 69 = .ok (.aload_n 0, 1) := by decide +kernel
theorem d_Sm_step_70 : decode y_Sm_step.2.1 70 = .ok (.getfield 46, 3) := by decide +kernel
theorem d_Sm_step_73 : decode y_Sm_step.2.1 73 = .ok (.getfield 113, 3) := by decide +kernel
theorem d_Sm_step_76 : decode y_Sm_step.2.1 76 = .ok (.iload 5, 2) := by decide +kernel
theorem d_Sm_step_78 : decode y_Sm_step.2.1 78 = .ok (.invokevirtual 131, 3) := by decide +kernel
theorem d_Sm_step_81 : decode y_Sm_step.2.1 81 = .ok (.ifCond .eq 41, 3) := by decide +kernel
theorem d_Sm_step_84 : decode y_Sm_step.2.1 84 = .ok (.aload_n 0, 1) := by decide +kernel
theorem d_Sm_step_85 : decode y_Sm_step.2.1 85 = .ok (.getfield 46, 3) := by decide +kernel
theorem d_Sm_step_88 : decode y_Sm_step.2.1 88 = .ok (.getfield 113, 3) := by decide +kernel
theorem d_Sm_step_91 : decode y_Sm_step.2.1 91 = .ok (.iload 6, 2) := by decide +kernel
theorem d_Sm_step_93 : decode y_Sm_step.2.1 93 = .ok (.invokevirtual 131, 3) := by decide +kernel
theorem d_Sm_step_96 : decode y_Sm_step.2.1 96 = .ok (.ifCond .eq 26, 3) := by decide +kernel
theorem d_Sm_step_99 : decode y_Sm_step.2.1 99 = .ok (.aload_n 0, 1) := by decide +kernel
theorem d_Sm_step_100 : decode y_Sm_step.2.1 100 = .ok (.iload_n 1, 1) := by decide +kernel
theorem d_Sm_step_101 : decode y_Sm_step.2.1 101 = .ok (.iload 5, 2) := by decide +kernel
theorem d_Sm_step_103 : decode y_Sm_step.2.1 103 = .ok (.iload 6, 2) := by decide +kernel
theorem d_Sm_step_105 : decode y_Sm_step.2.1 105 = .ok (.iload 7, 2) := by decide +kernel
theorem d_Sm_step_107 : decode y_Sm_step.2.1 107 = .ok (.invokevirtual 153, 3) := by decide +kernel
theorem d_Sm_step_110 : decode y_Sm_step.2.1 110 = .ok (.aload_n 0, 1) := by decide +kernel
theorem d_Sm_step_111 : decode y_Sm_step.2.1 111 = .ok (.iload_n 1, 1) := by decide +kernel
theorem d_Sm_step_112 : decode y_Sm_step.2.1 112 = .ok (.iload 6, 2) := by decide +kernel
theorem d_Sm_step_114 : decode y_Sm_step.2.1 114 = .ok (.iload 5, 2) := by decide +kernel
theorem d_Sm_step_116 : decode y_Sm_step.2.1 116 = .ok (.iload 7, 2) := by decide +kernel
theorem d_Sm_step_118 : decode y_Sm_step.2.1 118 = .ok (.ineg, 1) := by decide +kernel
theorem d_Sm_step_119 : decode y_Sm_step.2.1 119 = .ok (.invokevirtual 153, 3) := by decide +kernel
theorem d_Sm_step_122 : decode y_Sm_step.2.1 122 = .ok (.iinc 4 1, 3) := by decide +kernel
theorem d_Sm_step_125 : decode y_Sm_step.2.1 125 = .ok (.goto (-115), 3) := by decide +kernel
theorem d_Sm_step_128 : decode y_Sm_step.2.1 128 = .ok (.iconst 0, 1) := by decide +kernel
theorem d_Sm_step_129 : decode y_Sm_step.2.1 129 = .ok (.istore 4, 2) := by decide +kernel
theorem d_Sm_step_131 : decode y_Sm_step.2.1 131 = .ok (.iload 4, 2) := by decide +kernel
theorem d_Sm_step_133 : decode y_Sm_step.2.1 133 = .ok (.aload_n 0, 1) := by decide +kernel
theorem d_Sm_step_134 : decode y_Sm_step.2.1 134 = .ok (.getfield 46, 3) := by decide +kernel
theorem d_Sm_step_137 : decode y_Sm_step.2.1 137 = .ok (.getfield 113, 3) := by decide +kernel
theorem d_Sm_step_140 : decode y_Sm_step.2.1 140 = .ok (.invokevirtual 116, 3) := by decide +kernel
theorem d_Sm_step_143 : decode y_Sm_step.2.1 143 = .ok (.if_icmp .ge 16, 3) := by decide +kernel
theorem d_Sm_step_146 : decode y_Sm_step.2.1 146 = .ok (.aload_n 0, 1) := by decide +kernel
theorem d_Sm_step_147 : decode y_Sm_step.2.1 147 = .ok (.iload_n 1, 1) := by decide +kernel
theorem d_Sm_step_148 : decode y_Sm_step.2.1 148 = .ok (.iload 4, 2) := by decide +kernel
theorem d_Sm_step_150 : decode y_Sm_step.2.1 150 = .ok (.invokevirtual 157, 3) := by decide +kernel
theorem d_Sm_step_153 : decode y_Sm_step.2.1 153 = .ok (.iinc 4 1, 3) := by decide +kernel
theorem d_Sm_step_156 : decode y_Sm_step.2.1 156 = .ok (.goto (-25), 3) := by decide +kernel
theorem d_Sm_step_159 : decode y_Sm_step.2.1 159 = .ok (.iconst 0, 1) := by decide +kernel
theorem d_Sm_step_160 : decode y_Sm_step.2.1 160 = .ok (.istore 4, 2) := by decide +kernel
theorem d_Sm_step_162 : decode y_Sm_step.2.1 162 = .ok (.iload 4, 2) := by decide +kernel
theorem d_Sm_step_164 : decode y_Sm_step.2.1 164 = .ok (.aload_n 0, 1) := by decide +kernel
theorem d_Sm_step_165 : decode y_Sm_step.2.1 165 = .ok (.getfield 46, 3) := by decide +kernel
theorem d_Sm_step_168 : decode y_Sm_step.2.1 168 = .ok (.getfield 113, 3) := by decide +kernel
theorem d_Sm_step_171 : decode y_Sm_step.2.1 171 = .ok (.invokevirtual 116, 3) := by decide +kernel
theorem d_Sm_step_174 : decode y_Sm_step.2.1 174 = .ok (.if_icmp .ge 37, 3) := by decide +kernel
theorem d_Sm_step_177 : decode y_Sm_step.2.1 177 = .ok (.iload_n 1, 1) := by decide +kernel
theorem d_Sm_step_178 : decode y_Sm_step.2.1 178 = .ok (.iconst 1, 1) := by decide +kernel
theorem d_Sm_step_179 : decode y_Sm_step.2.1 179 = .ok (.iadd, 1) := by decide +kernel
theorem d_Sm_step_180 : decode y_Sm_step.2.1 180 = .ok (.aload_n 0, 1) := by decide +kernel
theorem d_Sm_step_181 : decode y_Sm_step.2.1 181 = .ok (.getfield 46, 3) := by decide +kernel
theorem d_Sm_step_184 : decode y_Sm_step.2.1 184 = .ok (.getfield 113, 3) := by decide +kernel
theorem d_Sm_step_187 : decode y_Sm_step.2.1 187 = .ok (.iload 4, 2) := by decide +kernel
theorem d_Sm_step_189 : decode y_Sm_step.2.1 189 = .ok (.iconst 2, 1) := by decide +kernel
theorem d_Sm_step_190 : decode y_Sm_step.2.1 190 = .ok (.invokevirtual 92, 3) := by decide +kernel
theorem d_Sm_step_193 : decode y_Sm_step.2.1 193 = .ok (.if_icmp .lt 12, 3) := by decide +kernel
theorem d_Sm_step_196 : decode y_Sm_step.2.1 196 = .ok (.aload_n 0, 1) := by decide +kernel
theorem d_Sm_step_197 : decode y_Sm_step.2.1 197 = .ok (.iload_n 1, 1) := by decide +kernel
theorem d_Sm_step_198 : decode y_Sm_step.2.1 198 = .ok (.iconst 1, 1) := by decide +kernel
theorem d_Sm_step_199 : decode y_Sm_step.2.1 199 = .ok (.iadd, 1) := by decide +kernel
theorem d_Sm_step_200 : decode y_Sm_step.2.1 200 = .ok (.iload 4, 2) := by decide +kernel
theorem d_Sm_step_202 : decode y_Sm_step.2.1 202 = .ok (.invokevirtual 161, 3) := by decide +kernel
theorem d_Sm_step_205 : decode y_Sm_step.2.1 205 = .ok (.iinc 4 1, 3) := by decide +kernel
theorem d_Sm_step_208 : decode y_Sm_step.2.1 208 = .ok (.goto (-46), 3) := by decide +kernel
theorem d_Sm_step_211 : decode y_Sm_step.2.1 211 = .ok (.return_, 1) := by decide +kernel
theorem d_Sm_begin_0 : decode y_Sm_begin.2.1 0 = .ok (.iconst 0, 1) := by decide +kernel
theorem d_Sm_begin_1 : decode y_Sm_begin.2.1 1 = .ok (.istore 4, 2) := by decide +kernel
theorem d_Sm_begin_3 : decode y_Sm_begin.2.1 3 = .ok (.iload 4, 2) := by decide +kernel
theorem d_Sm_begin_5 : decode y_Sm_begin.2.1 5 = .ok (.aload_n 0, 1) := by decide +kernel
theorem d_Sm_begin_6 : decode y_Sm_begin.2.1 6 = .ok (.getfield 46, 3) := by decide +kernel
theorem d_Sm_begin_9 : decode y_Sm_begin.2.1 9 = .ok (.getfield 113, 3) := by decide +kernel
theorem d_Sm_begin_12 : decode y_Sm_begin.2.1 12 = .ok (.invokevirtual 116, 3) := by decide +kernel
theorem d_Sm_begin_15 : decode y_Sm_begin.2.1 15 = .ok (.if_icmp .ge 66, 3) := by decide +kernel
theorem d_Sm_begin_18 : decode y_Sm_begin.2.1 18 = .ok (.aload_n 0, 1) := by decide +kernel
theorem d_Sm_begin_19 : decode y_Sm_begin.2.1 19 = .ok (.getfield 36, 3) := by decide +kernel
theorem d_Sm_begin_22 : decode y_Sm_begin.2.1 22 = .ok (.iload 4, 2) := by decide +kernel
theorem d_Sm_begin_24 : decode y_Sm_begin.2.1 24 = .ok (.aload_n 0, 1) := by decide +kernel
theorem d_Sm_begin_25 : decode y_Sm_begin.2.1 25 = .ok (.iload 4, 2) := by decide +kernel
theorem d_Sm_begin_27 : decode y_Sm_begin.2.1 27 = .ok (.iload_n 1, 1) := by decide +kernel
theorem d_Sm_begin_28 : decode y_Sm_begin.2.1 28 = .ok (.invokevirtual 110, 3) := by decide +kernel
theorem d_Sm_begin_31 : decode y_Sm_begin.2.1 31 = .ok (.iload 4, 2) := by decide +kernel
theorem d_Sm_begin_33 : decode y_Sm_begin.2.1 33 = .ok (.iload_n 2, 1) := by decide +kernel
theorem d_Sm_begin_34 : decode y_Sm_begin.2.1 34 = .ok (.if_icmp .ne 7, 3) := by decide +kernel
theorem d_Sm_begin_37 : decode y_Sm_begin.2.1 37 = .ok (.iload_n 3, 1) := by decide +kernel
theorem d_Sm_begin_38 : decode y_Sm_begin.2.1 38 = .ok (.goto 4, 3) := by decide +kernel
theorem d_Sm_begin_41 : decode y_Sm_begin.2.1 41 = .ok (.iconst 0, 1) := by decide +kernel
theorem d_Sm_begin_42 : decode y_Sm_begin.2.1 42 = .ok (.iadd, 1) := by decide +kernel
theorem d_Sm_begin_43 : decode y_Sm_begin.2.1 43 = .ok (.iastore, 1) := by decide +kernel
theorem d_Sm_begin_44 : decode y_Sm_begin.2.1 44 = .ok (.aload_n 0, 1) := by decide +kernel
theorem d_Sm_begin_45 : decode y_Sm_begin.2.1 45 = .ok (.getfield 39, 3) := by decide +kernel
theorem d_Sm_begin_48 : decode y_Sm_begin.2.1 48 = .ok (.iload 4, 2) := by decide +kernel
theorem d_Sm_begin_50 : decode y_Sm_begin.2.1 50 = .ok (.aload_n 0, 1) := by decide +kernel
theorem d_Sm_begin_51 : decode y_Sm_begin.2.1 51 = .ok (.iload 4, 2) := by decide +kernel
theorem d_Sm_begin_53 : decode y_Sm_begin.2.1 53 = .ok (.iload_n 1, 1) := by decide +kernel
theorem d_Sm_begin_54 : decode y_Sm_begin.2.1 54 = .ok (.invokevirtual 104, 3) := by decide +kernel
theorem d_Sm_begin_57 : decode y_Sm_begin.2.1 57 = .ok (.iastore, 1) := by decide +kernel
theorem d_Sm_begin_58 : decode y_Sm_begin.2.1 58 = .ok (.aload_n 0, 1) := by decide +kernel
theorem d_Sm_begin_59 : decode y_Sm_begin.2.1 59 = .ok (.getfield 33, 3) := by decide +kernel
theorem d_Sm_begin_62 : decode y_Sm_begin.2.1 62 = .ok (.iload 4, 2) := by decide +kernel
theorem d_Sm_begin_64 : decode y_Sm_begin.2.1 64 = .ok (.aload_n 0, 1) := by decide +kernel
theorem d_Sm_begin_65 : decode y_Sm_begin.2.1 65 = .ok (.getfield 36, 3) := by decide +kernel
theorem d_Sm_begin_68 : decode y_Sm_begin.2.1 68 = .ok (.iload 4, 2) := by decide +kernel
theorem d_Sm_begin_70 : decode y_Sm_begin.2.1 70 = .ok (.iaload, 1) := by decide +kernel
theorem d_Sm_begin_71 : decode y_Sm_begin.2.1 71 = .ok (.bipush 8, 2) := by decide +kernel
theorem d_Sm_begin_73 : decode y_Sm_begin.2.1 73 = .ok (.idiv, 1) := by decide +kernel
theorem d_Sm_begin_74 : decode y_Sm_begin.2.1 74 = .ok (.iastore, 1) := by decide +kernel
theorem d_Sm_begin_75 : decode y_Sm_begin.2.1 75 = .ok (.iinc 4 1, 3) := by decide +kernel
theorem d_Sm_begin_78 : decode y_Sm_begin.2.1 78 = .ok (.goto (-75), 3) := by decide +kernel
theorem d_Sm_begin_81 : decode y_Sm_begin.2.1 81 = .ok (.iconst 0, 1) := by decide +kernel
theorem d_Sm_begin_82 : decode y_Sm_begin.2.1 82 = .ok (.istore 4, 2) := by decide +kernel
theorem d_Sm_begin_84 : decode y_Sm_begin.2.1 84 = .ok (.iload 4, 2) := by decide +kernel
theorem d_Sm_begin_86 : decode y_Sm_begin.2.1 86 = .ok (.iconst 3, 1) := by decide +kernel
theorem d_Sm_begin_87 : decode y_Sm_begin.2.1 87 = .ok (.if_icmp .ge 33, 3) := by decide +kernel
theorem d_Sm_begin_90 : decode y_Sm_begin.2.1 90 = .ok (.aload_n 0, 1) := by decide +kernel
theorem d_Sm_begin_91 : decode y_Sm_begin.2.1 91 = .ok (.getfield 21, 3) := by decide +kernel
theorem d_Sm_begin_94 : decode y_Sm_begin.2.1 94 = .ok (.iload_n 1, 1) := by decide +kernel
theorem d_Sm_begin_95 : decode y_Sm_begin.2.1 95 = .ok (.iconst 1, 1) := by decide +kernel
theorem d_Sm_begin_96 : decode y_Sm_begin.2.1 96 = .ok (.iadd, 1) := by decide +kernel
theorem d_Sm_begin_97 : decode y_Sm_begin.2.1 97 = .ok (.iconst 3, 1) := by decide +kernel
theorem d_Sm_begin_98 : decode y_Sm_begin.2.1 98 = .ok (.imul, 1) := by decide +kernel
theorem d_Sm_begin_99 : decode y_Sm_begin.2.1 99 = .ok (.iload 4, 2) := by decide +kernel
theorem d_Sm_begin_101 : decode y_Sm_begin.2.1 101 = .ok (.iadd, 1) := by decide +kernel
theorem d_Sm_begin_102 : decode y_Sm_begin.2.1 102 = .ok (.aload_n 0, 1) := by decide +kernel
theorem d_Sm_begin_103 : decode y_Sm_begin.2.1 103 = .ok (.getfield 21, 3) := by decide +kernel
theorem d_Sm_begin_106 : decode y_Sm_begin.2.1 106 = .ok (.iload_n 1, 1) := by decide +kernel
theorem d_Sm_begin_107 : decode y_Sm_begin.2.1 107 = .ok (.iconst 3, 1) := by decide +kernel
theorem d_Sm_begin_108 : decode y_Sm_begin.2.1 108 = .ok (.imul, 1) := by decide +kernel
theorem d_Sm_begin_109 : decode y_Sm_begin.2.1 109 = .ok (.iload 4, 2) := by decide +kernel
theorem d_Sm_begin_111 : decode y_Sm_begin.2.1 111 = .ok (.iadd, 1) := by decide +kernel
theorem d_Sm_begin_112 : decode y_Sm_begin.2.1 112 = .ok (.iaload, 1) := by decide +kernel
theorem d_Sm_begin_113 : decode y_Sm_begin.2.1 113 = .ok (.iastore, 1) := by decide +kernel
theorem d_Sm_begin_114 : decode y_Sm_begin.2.1 114 = .ok (.iinc 4 1, 3) := by decide +kernel
theorem d_Sm_begin_117 : decode y_Sm_begin.2.1 117 = .ok (.goto (-33), 3) := by decide +kernel
theorem d_Sm_begin_120 : decode y_Sm_begin.2.1 120 = .ok (.aload_n 0, 1) := by decide +kernel
theorem d_Sm_begin_121 : decode y_Sm_begin.2.1 121 = .ok (.getfield 21, 3) := by decide +kernel
theorem d_Sm_begin_124 : decode y_Sm_begin.2.1 124 = .ok (.iload_n 1, 1) := by decide +kernel
theorem d_Sm_begin_125 : decode y_Sm_begin.2.1 125 = .ok (.iconst 1, 1) := by decide +kernel
theorem d_Sm_begin_126 : decode y_Sm_begin.2.1 126 = .ok (.iadd, 1) := by decide +kernel
theorem d_Sm_begin_127 : decode y_Sm_begin.2.1 127 = .ok (.iconst 3, 1) := by decide +kernel
theorem d_Sm_begin_128 : decode y_Sm_begin.2.1 128 = .ok (.imul, 1) := by decide +kernel
theorem d_Sm_begin_129 : decode y_Sm_begin.2.1 129 = .ok (.iconst 0, 1) := by decide +kernel
theorem d_Sm_begin_130 : decode y_Sm_begin.2.1 130 = .ok (.iadd, 1) := by decide +kernel
theorem d_Sm_begin_131 : decode y_Sm_begin.2.1 131 = .ok (.dup2, 1) := by decide +kernel
theorem d_Sm_begin_132 : decode y_Sm_begin.2.1 132 = .ok (.iaload, 1) := by decide +kernel
theorem d_Sm_begin_133 : decode y_Sm_begin.2.1 133 = .ok (.iload_n 3, 1) := by decide +kernel
theorem d_Sm_begin_134 : decode y_Sm_begin.2.1 134 = .ok (.iadd, 1) := by decide +kernel
theorem d_Sm_begin_135 : decode y_Sm_begin.2.1 135 = .ok (.iastore, 1) := by decide +kernel
theorem d_Sm_begin_136 : decode y_Sm_begin.2.1 136 = .ok (.aload_n 0, 1) := by decide +kernel
theorem d_Sm_begin_137 : decode y_Sm_begin.2.1 137 = .ok (.iconst 0, 1) := by decide +kernel
theorem d_Sm_begin_138 : decode y_Sm_begin.2.1 138 = .ok (.putfield 164, 3) := by decide +kernel
theorem d_Sm_begin_141 : decode y_Sm_begin.2.1 141 = .ok (.return_, 1) := by decide +kernel
theorem d_Sm_carry_0 : decode y_Sm_carry.2.1 0 = .ok (.iload_n 1, 1) := by decide +kernel
theorem d_Sm_carry_1 : decode y_Sm_carry.2.1 1 = .ok (.iconst 1, 1) := by decide +kernel
theorem d_Sm_carry_2 : decode y_Sm_carry.2.1 2 = .ok (.iadd, 1) := by decide +kernel
theorem d_Sm_carry_3 : decode y_Sm_carry.2.1 3 = .ok (.bipush 8, 2) := by decide +kernel
theorem d_Sm_carry_5 : decode y_Sm_carry.2.1 5 = .ok (.imul, 1) := by decide +kernel
theorem d_Sm_carry_6 : decode y_Sm_carry.2.1 6 = .ok (.iload_n 3, 1) := by decide +kernel
theorem d_Sm_carry_7 : decode y_Sm_carry.2.1 7 = .ok (.iadd, 1) := by decide +kernel
theorem d_Sm_carry_8 : decode y_Sm_carry.2.1 8 = .ok (.istore 5, 2) := by decide +kernel
theorem d_Sm_carry_10 : decode y_Sm_carry.2.1 10 = .ok (.iload 4, 2) := by decide +kernel
theorem d_Sm_carry_12 : decode y_Sm_carry.2.1 12 = .ok (.bipush 6, 2) := by decide +kernel
theorem d_Sm_carry_14 : decode y_Sm_carry.2.1 14 = .ok (.if_icmp .ge 10, 3) := by decide +kernel
theorem d_Sm_carry_17 : decode y_Sm_carry.2.1 17 = .ok (.iload 4, 2) := by decide +kernel
theorem d_Sm_carry_19 : decode y_Sm_carry.2.1 19 = .ok (.bipush (-6), 2) := by decide +kernel
theorem d_Sm_carry_21 : decode y_Sm_carry.2.1 21 = .ok (.if_icmp .gt 15, 3) := by decide +kernel
theorem d_Sm_carry_24 : decode y_Sm_carry.2.1 24 = .ok (.aload_n 0, 1) := by decide +kernel
theorem d_Sm_carry_25 : decode y_Sm_carry.2.1 25 = .ok (.dup, 1) := by decide +kernel
theorem d_Sm_carry_26 : decode y_Sm_carry.2.1 26 = .ok (.getfield 164, 3) := by decide +kernel
theorem d_Sm_carry_29 : decode y_Sm_carry.2.1 29 = .ok (.iconst 1, 1) := by decide +kernel
theorem d_Sm_carry_30 : decode y_Sm_carry.2.1 30 = .ok (.iload_n 2, 1) := by decide +kernel
theorem d_Sm_carry_31 : decode y_Sm_carry.2.1 31 = .ok (.ishl, 1) := by decide +kernel
theorem d_Sm_carry_32 : decode y_Sm_carry.2.1 32 = .ok (.ior, 1) := by decide +kernel
theorem d_Sm_carry_33 : decode y_Sm_carry.2.1 33 = .ok (.putfield 164, 3) := by decide +kernel
theorem d_Sm_carry_36 : decode y_Sm_carry.2.1 36 = .ok (.iload 4, 2) := by decide +kernel
theorem d_Sm_carry_38 : decode y_Sm_carry.2.1 38 = .ok (.bipush (-4), 2) := by decide +kernel
theorem d_Sm_carry_40 : decode y_Sm_carry.2.1 40 = .ok (.if_icmp .le 43, 3) := by decide +kernel
theorem d_Sm_carry_43 : decode y_Sm_carry.2.1 43 = .ok (.aload_n 0, 1) := by decide +kernel
theorem d_Sm_carry_44 : decode y_Sm_carry.2.1 44 = .ok (.getfield 33, 3) := by decide +kernel
theorem d_Sm_carry_47 : decode y_Sm_carry.2.1 47 = .ok (.iload_n 2, 1) := by decide +kernel
theorem d_Sm_carry_48 : decode y_Sm_carry.2.1 48 = .ok (.iaload, 1) := by decide +kernel
theorem d_Sm_carry_49 : decode y_Sm_carry.2.1 49 = .ok (.aload_n 0, 1) := by decide +kernel
theorem d_Sm_carry_50 : decode y_Sm_carry.2.1 50 = .ok (.getfield 36, 3) := by decide +kernel
theorem d_Sm_carry_53 : decode y_Sm_carry.2.1 53 = .ok (.iload_n 2, 1) := by decide +kernel
theorem d_Sm_carry_54 : decode y_Sm_carry.2.1 54 = .ok (.iaload, 1) := by decide +kernel
theorem d_Sm_carry_55 : decode y_Sm_carry.2.1 55 = .ok (.invokestatic 142, 3) := by decide +kernel
theorem d_Sm_carry_58 : decode y_Sm_carry.2.1 58 = .ok (.istore 6, 2) := by decide +kernel
theorem d_Sm_carry_60 : decode y_Sm_carry.2.1 60 = .ok (.aload_n 0, 1) := by decide +kernel
theorem d_Sm_carry_61 : decode y_Sm_carry.2.1 61 = .ok (.getfield 36, 3) := by decide +kernel
theorem d_Sm_carry_64 : decode y_Sm_carry.2.1 64 = .ok (.iload_n 2, 1) := by decide +kernel
theorem d_Sm_carry_65 : decode y_Sm_carry.2.1 65 = .ok (.dup2, 1) := by decide +kernel
theorem d_Sm_carry_66 : decode y_Sm_carry.2.1 66 = .ok (.iaload, 1) := by decide +kernel
theorem d_Sm_carry_67 : decode y_Sm_carry.2.1 67 = .ok (.iload 6, 2) := by decide +kernel
theorem d_Sm_carry_69 : decode y_Sm_carry.2.1 69 = .ok (.isub, 1) := by decide +kernel
theorem d_Sm_carry_70 : decode y_Sm_carry.2.1 70 = .ok (.iastore, 1) := by decide +kernel
theorem d_Sm_carry_71 : decode y_Sm_carry.2.1 71 = .ok (.aload_n 0, 1) := by decide +kernel
theorem d_Sm_carry_72 : decode y_Sm_carry.2.1 72 = .ok (.getfield 9, 3) := by decide +kernel
theorem d_Sm_carry_75 : decode y_Sm_carry.2.1 75 = .ok (.iload 5, 2) := by decide +kernel
theorem d_Sm_carry_77 : decode y_Sm_carry.2.1 77 = .ok (.dup2, 1) := by decide +kernel
theorem d_Sm_carry_78 : decode y_Sm_carry.2.1 78 = .ok (.iaload, 1) := by decide +kernel
theorem d_Sm_carry_79 : decode y_Sm_carry.2.1 79 = .ok (.iload 6, 2) := by decide +kernel
theorem d_Sm_carry_81 : decode y_Sm_carry.2.1 81 = .ok (.iadd, 1) := by decide +kernel
theorem d_Sm_carry_82 : decode y_Sm_carry.2.1 82 = .ok (.iastore, 1) := by decide +kernel
theorem d_Sm_carry_83 : decode y_Sm_carry.2.1 83 = .ok (.iload 4, 2) := by decide +kernel
theorem d_Sm_carry_85 : decode y_Sm_carry.2.1 85 = .ok (.ifCond .le 49, 3) := by decide +kernel
theorem d_Sm_carry_88 : decode y_Sm_carry.2.1 88 = .ok (.aload_n 0, 1) := by decide +kernel
theorem d_Sm_carry_89 : decode y_Sm_carry.2.1 89 = .ok (.iload_n 2, 1) := by decide +kernel
theorem d_Sm_carry_90 : decode y_Sm_carry.2.1 90 = .ok (.iload_n 1, 1) := by decide +kernel
theorem d_Sm_carry_91 : decode y_Sm_carry.2.1 91 = .ok (.invokevirtual 104, 3) := by decide +kernel
theorem d_Sm_carry_94 : decode y_Sm_carry.2.1 94 = .ok (.iload 4, 2) := by decide +kernel
theorem d_Sm_carry_96 : decode y_Sm_carry.2.1 96 = .ok (.imul, 1) := by decide +kernel
theorem d_Sm_carry_97 : decode y_Sm_carry.2.1 97 = .ok (.bipush 16, 2) := by decide +kernel
theorem d_Sm_carry_99 : decode y_Sm_carry.2.1 99 = .ok (.idiv, 1) := by decide +kernel
theorem d_Sm_carry_100 : decode y_Sm_carry.2.1 100 = .ok (.aload_n 0, 1) := by decide +kernel
theorem d_Sm_carry_101 : decode y_Sm_carry.2.1 101 = .ok (.getfield 39, 3) := by decide +kernel
theorem d_Sm_carry_104 : decode y_Sm_carry.2.1 104 = .ok (.iload_n 2, 1) := by decide +kernel
theorem d_Sm_carry_105 : decode y_Sm_carry.2.1 105 = .ok (.iaload, 1) := by decide +kernel
theorem d_Sm_carry_106 : decode y_Sm_carry.2.1 106 = .ok (.invokestatic 142, 3) := by decide +kernel
theorem d_Sm_carry_109 : decode y_Sm_carry.2.1 109 = .ok (.istore 6, 2) := by decide +kernel
theorem d_Sm_carry_111 : decode y_Sm_carry.2.1 111 = .ok (.aload_n 0, 1) := by decide +kernel
theorem d_Sm_carry_112 : decode y_Sm_carry.2.1 112 = .ok (.getfield 39, 3) := by decide +kernel
theorem d_Sm_carry_115 : decode y_Sm_carry.2.1 115 = .ok (.iload_n 2, 1) := by decide +kernel
theorem d_Sm_carry_116 : decode y_Sm_carry.2.1 116 = .ok (.dup2, 1) := by decide +kernel
theorem d_Sm_carry_117 : decode y_Sm_carry.2.1 117 = .ok (.iaload, 1) := by decide +kernel
theorem d_Sm_carry_118 : decode y_Sm_carry.2.1 118 = .ok (.iload 6, 2) := by decide +kernel
theorem d_Sm_carry_120 : decode y_Sm_carry.2.1 120 = .ok (.isub, 1) := by decide +kernel
theorem d_Sm_carry_121 : decode y_Sm_carry.2.1 121 = .ok (.iastore, 1) := by decide +kernel
theorem d_Sm_carry_122 : decode y_Sm_carry.2.1 122 = .ok (.aload_n 0, 1) := by decide +kernel
theorem d_Sm_carry_123 : decode y_Sm_carry.2.1 123 = .ok (.getfield 15, 3) := by decide +kernel
theorem d_Sm_carry_126 : decode y_Sm_carry.2.1 126 = .ok (.iload 5, 2) := by decide +kernel
theorem d_Sm_carry_128 : decode y_Sm_carry.2.1 128 = .ok (.dup2, 1) := by decide +kernel
theorem d_Sm_carry_129 : decode y_Sm_carry.2.1 129 = .ok (.iaload, 1) := by decide +kernel
theorem d_Sm_carry_130 : decode y_Sm_carry.2.1 130 = .ok (.iload 6, 2) := by decide +kernel
theorem d_Sm_carry_132 : decode y_Sm_carry.2.1 132 = .ok (.iadd, 1) := by decide +kernel
theorem d_Sm_carry_133 : decode y_Sm_carry.2.1 133 = .ok (.iastore, 1) := by decide +kernel
theorem d_Sm_carry_134 : decode y_Sm_carry.2.1 134 = .ok (.return_, 1) := by decide +kernel
theorem d_Sm_settle_0 : decode y_Sm_settle.2.1 0 = .ok (.iload_n 1, 1) := by decide +kernel
theorem d_Sm_settle_1 : decode y_Sm_settle.2.1 1 = .ok (.iconst 1, 1) := by decide +kernel
theorem d_Sm_settle_2 : decode y_Sm_settle.2.1 2 = .ok (.iadd, 1) := by decide +kernel
theorem d_Sm_settle_3 : decode y_Sm_settle.2.1 3 = .ok (.bipush 8, 2) := by decide +kernel
theorem d_Sm_settle_5 : decode y_Sm_settle.2.1 5 = .ok (.imul, 1) := by decide +kernel
theorem d_Sm_settle_6 : decode y_Sm_settle.2.1 6 = .ok (.iload_n 2, 1) := by decide +kernel
theorem d_Sm_settle_7 : decode y_Sm_settle.2.1 7 = .ok (.iadd, 1) := by decide +kernel
theorem d_Sm_settle_8 : decode y_Sm_settle.2.1 8 = .ok (.istore_n 3, 1) := by decide +kernel
theorem d_Sm_settle_9 : decode y_Sm_settle.2.1 9 = .ok (.aload_n 0, 1) := by decide +kernel
theorem d_Sm_settle_10 : decode y_Sm_settle.2.1 10 = .ok (.getfield 46, 3) := by decide +kernel
theorem d_Sm_settle_13 : decode y_Sm_settle.2.1 13 = .ok (.getfield 113, 3) := by decide +kernel
theorem d_Sm_settle_16 : decode y_Sm_settle.2.1 16 = .ok (.iload_n 2, 1) := by decide +kernel
theorem d_Sm_settle_17 : decode y_Sm_settle.2.1 17 = .ok (.iconst 1, 1) := by decide +kernel
theorem d_Sm_settle_18 : decode y_Sm_settle.2.1 18 = .ok (.invokevirtual 92, 3) := by decide +kernel
theorem d_Sm_settle_21 : decode y_Sm_settle.2.1 21 = .ok (.ifCond .le 84, 3) := by decide +kernel
theorem d_Sm_settle_24 : decode y_Sm_settle.2.1 24 = .ok (.aload_n 0, 1) := by decide +kernel
theorem d_Sm_settle_25 : decode y_Sm_settle.2.1 25 = .ok (.getfield 33, 3) := by decide +kernel
theorem d_Sm_settle_28 : decode y_Sm_settle.2.1 28 = .ok (.iload_n 2, 1) := by decide +kernel
theorem d_Sm_settle_29 : decode y_Sm_settle.2.1 29 = .ok (.iaload, 1) := by decide +kernel
theorem d_Sm_settle_30 : decode y_Sm_settle.2.1 30 = .ok (.aload_n 0, 1) := by decide +kernel
theorem d_Sm_settle_31 : decode y_Sm_settle.2.1 31 = .ok (.getfield 36, 3) := by decide +kernel
theorem d_Sm_settle_34 : decode y_Sm_settle.2.1 34 = .ok (.iload_n 2, 1) := by decide +kernel
theorem d_Sm_settle_35 : decode y_Sm_settle.2.1 35 = .ok (.iaload, 1) := by decide +kernel
theorem d_Sm_settle_36 : decode y_Sm_settle.2.1 36 = .ok (.invokestatic 142, 3) := by decide +kernel
theorem d_Sm_settle_39 : decode y_Sm_settle.2.1 39 = .ok (.istore 4, 2) := by decide +kernel
theorem d_Sm_settle_41 : decode y_Sm_settle.2.1 41 = .ok (.aload_n 0, 1) := by decide +kernel
theorem d_Sm_settle_42 : decode y_Sm_settle.2.1 42 = .ok (.iload_n 2, 1) := by decide +kernel
theorem d_Sm_settle_43 : decode y_Sm_settle.2.1 43 = .ok (.iload_n 1, 1) := by decide +kernel
theorem d_Sm_settle_44 : decode y_Sm_settle.2.1 44 = .ok (.invokevirtual 104, 3) := by decide +kernel
theorem d_Sm_settle_47 : decode y_Sm_settle.2.1 47 = .ok (.iconst 2, 1) := by decide +kernel
theorem d_Sm_settle_48 : decode y_Sm_settle.2.1 48 = .ok (.imul, 1) := by decide +kernel
theorem d_Sm_settle_49 : decode y_Sm_settle.2.1 49 = .ok (.bipush 16, 2) := by decide +kernel
theorem d_Sm_settle_51 : decode y_Sm_settle.2.1 51 = .ok (.idiv, 1) := by decide +kernel
theorem d_Sm_settle_52 : decode y_Sm_settle.2.1 52 = .ok (.aload_n 0, 1) := by decide +kernel
theorem d_Sm_settle_53 : decode y_Sm_settle.2.1 53 = .ok (.getfield 39, 3) := by decide +kernel
theorem d_Sm_settle_56 : decode y_Sm_settle.2.1 56 = .ok (.iload_n 2, 1) := by decide +kernel
theorem d_Sm_settle_57 : decode y_Sm_settle.2.1 57 = .ok (.iaload, 1) := by decide +kernel
theorem d_Sm_settle_58 : decode y_Sm_settle.2.1 58 = .ok (.invokestatic 142, 3) := by decide +kernel
theorem d_Sm_settle_61 : decode y_Sm_settle.2.1 61 = .ok (.istore 5, 2) := by decide +kernel
theorem d_Sm_settle_63 : decode y_Sm_settle.2.1 63 = .ok (.aload_n 0, 1) := by decide +kernel
theorem d_Sm_settle_64 : decode y_Sm_settle.2.1 64 = .ok (.getfield 36, 3) := by decide +kernel
theorem d_Sm_settle_67 : decode y_Sm_settle.2.1 67 = .ok (.iload_n 2, 1) := by decide +kernel
theorem d_Sm_settle_68 : decode y_Sm_settle.2.1 68 = .ok (.dup2, 1) := by decide +kernel
theorem d_Sm_settle_69 : decode y_Sm_settle.2.1 69 = .ok (.iaload, 1) := by decide +kernel
theorem d_Sm_settle_70 : decode y_Sm_settle.2.1 70 = .ok (.iload 4, 2) := by decide +kernel
theorem d_Sm_settle_72 : decode y_Sm_settle.2.1 72 = .ok (.isub, 1) := by decide +kernel
theorem d_Sm_settle_73 : decode y_Sm_settle.2.1 73 = .ok (.iastore, 1) := by decide +kernel
theorem d_Sm_settle_74 : decode y_Sm_settle.2.1 74 = .ok (.aload_n 0, 1) := by decide +kernel
theorem d_Sm_settle_75 : decode y_Sm_settle.2.1 75 = .ok (.getfield 39, 3) := by decide +kernel
theorem d_Sm_settle_78 : decode y_Sm_settle.2.1 78 = .ok (.iload_n 2, 1) := by decide +kernel
theorem d_Sm_settle_79 : decode y_Sm_settle.2.1 79 = .ok (.dup2, 1) := by decide +kernel
theorem d_Sm_settle_80 : decode y_Sm_settle.2.1 80 = .ok (.iaload, 1) := by decide +kernel
theorem d_Sm_settle_81 : decode y_Sm_settle.2.1 81 = .ok (.iload 5, 2) := by decide +kernel
theorem d_Sm_settle_83 : decode y_Sm_settle.2.1 83 = .ok (.isub, 1) := by decide +kernel
theorem d_Sm_settle_84 : decode y_Sm_settle.2.1 84 = .ok (.iastore, 1) := by decide +kernel
theorem d_Sm_settle_85 : decode y_Sm_settle.2.1 85 = .ok (.aload_n 0, 1) := by decide +kernel
theorem d_Sm_settle_86 : decode y_Sm_settle.2.1 86 = .ok (.getfield 21, 3) := by decide +kernel
theorem d_Sm_settle_89 : decode y_Sm_settle.2.1 89 = .ok (.iload_n 1, 1) := by decide +kernel
theorem d_Sm_settle_90 : decode y_Sm_settle.2.1 90 = .ok (.iconst 1, 1) := by decide +kernel
theorem d_Sm_settle_91 : decode y_Sm_settle.2.1 91 = .ok (.iadd, 1) := by decide +kernel
theorem d_Sm_settle_92 : decode y_Sm_settle.2.1 92 = .ok (.iconst 3, 1) := by decide +kernel
theorem d_Sm_settle_93 : decode y_Sm_settle.2.1 93 = .ok (.imul, 1) := by decide +kernel
theorem d_Sm_settle_94 : decode y_Sm_settle.2.1 94 = .ok (.iconst 1, 1) := by decide +kernel
theorem d_Sm_settle_95 : decode y_Sm_settle.2.1 95 = .ok (.iadd, 1) := by decide +kernel
theorem d_Sm_settle_96 : decode y_Sm_settle.2.1 96 = .ok (.dup2, 1) := by decide +kernel
theorem d_Sm_settle_97 : decode y_Sm_settle.2.1 97 = .ok (.iaload, 1) := by decide +kernel
theorem d_Sm_settle_98 : decode y_Sm_settle.2.1 98 = .ok (.iload 4, 2) := by decide +kernel
theorem d_Sm_settle_100 : decode y_Sm_settle.2.1 100 = .ok (.iload 5, 2) := by decide +kernel
theorem d_Sm_settle_102 : decode y_Sm_settle.2.1 102 = .ok (.iadd, 1) := by decide +kernel
theorem d_Sm_settle_103 : decode y_Sm_settle.2.1 103 = .ok (.iadd, 1) := by decide +kernel
theorem d_Sm_settle_104 : decode y_Sm_settle.2.1 104 = .ok (.iastore, 1) := by decide +kernel
theorem d_Sm_settle_105 : decode y_Sm_settle.2.1 105 = .ok (.aload_n 0, 1) := by decide +kernel
theorem d_Sm_settle_106 : decode y_Sm_settle.2.1 106 = .ok (.getfield 164, 3) := by decide +kernel
theorem d_Sm_settle_109 : decode y_Sm_settle.2.1 109 = .ok (.iload_n 2, 1) := by decide +kernel
theorem d_Sm_settle_110 : decode y_Sm_settle.2.1 110 = .ok (.ishr, 1) := by decide +kernel
theorem d_Sm_settle_111 : decode y_Sm_settle.2.1 111 = .ok (.iconst 1, 1) := by decide +kernel
theorem d_Sm_settle_112 : decode y_Sm_settle.2.1 112 = .ok (.iand, 1) := by decide +kernel
theorem d_Sm_settle_113 : decode y_Sm_settle.2.1 113 = .ok (.iconst 1, 1) := by decide +kernel
theorem d_Sm_settle_114 : decode y_Sm_settle.2.1 114 = .ok (.if_icmp .ne 12, 3) := by decide +kernel
theorem d_Sm_settle_117 : decode y_Sm_settle.2.1 117 = .ok (.aload_n 0, 1) := by decide +kernel
theorem d_Sm_settle_118 : decode y_Sm_settle.2.1 118 = .ok (.getfield 36, 3) := by decide +kernel
theorem d_Sm_settle_121 : decode y_Sm_settle.2.1 121 = .ok (.iload_n 2, 1) := by decide +kernel
theorem d_Sm_settle_122 : decode y_Sm_settle.2.1 122 = .ok (.iaload, 1) := by decide +kernel
theorem d_Sm_settle_123 : decode y_Sm_settle.2.1 123 = .ok (.goto 11, 3) := by decide +kernel
theorem d_Sm_settle_126 : decode y_Sm_settle.2.1 126 = .ok (.aload_n 0, 1) := by decide +kernel
theorem d_Sm_settle_127 : decode y_Sm_settle.2.1 127 = .ok (.getfield 36, 3) := by decide +kernel
theorem d_Sm_settle_130 : decode y_Sm_settle.2.1 130 = .ok (.iload_n 2, 1) := by decide +kernel
theorem d_Sm_settle_131 : decode y_Sm_settle.2.1 131 = .ok (.iaload, 1) := by decide +kernel
theorem d_Sm_settle_132 : decode y_Sm_settle.2.1 132 = .ok (.iconst 4, 1) := by decide +kernel
theorem d_Sm_settle_133 : decode y_Sm_settle.2.1 133 = .ok (.idiv, 1) := by decide +kernel
theorem d_Sm_settle_134 : decode y_Sm_settle.2.1 134 = .ok (.istore 4, 2) := by decide +kernel
theorem d_Sm_settle_136 : decode y_Sm_settle.2.1 136 = .ok (.aload_n 0, 1) := by decide +kernel
theorem d_Sm_settle_137 : decode y_Sm_settle.2.1 137 = .ok (.getfield 9, 3) := by decide +kernel
theorem d_Sm_settle_140 : decode y_Sm_settle.2.1 140 = .ok (.iload_n 3, 1) := by decide +kernel
theorem d_Sm_settle_141 : decode y_Sm_settle.2.1 141 = .ok (.dup2, 1) := by decide +kernel
theorem d_Sm_settle_142 : decode y_Sm_settle.2.1 142 = .ok (.iaload, 1) := by decide +kernel
theorem d_Sm_settle_143 : decode y_Sm_settle.2.1 143 = .ok (.aload_n 0, 1) := by decide +kernel
theorem d_Sm_settle_144 : decode y_Sm_settle.2.1 144 = .ok (.getfield 36, 3) := by decide +kernel
theorem d_Sm_settle_147 : decode y_Sm_settle.2.1 147 = .ok (.iload_n 2, 1) := by decide +kernel
theorem d_Sm_settle_148 : decode y_Sm_settle.2.1 148 = .ok (.iaload, 1) := by decide +kernel
theorem d_Sm_settle_149 : decode y_Sm_settle.2.1 149 = .ok (.iload 4, 2) := by decide +kernel
theorem d_Sm_settle_151 : decode y_Sm_settle.2.1 151 = .ok (.isub, 1) := by decide +kernel
theorem d_Sm_settle_152 : decode y_Sm_settle.2.1 152 = .ok (.iadd, 1) := by decide +kernel
theorem d_Sm_settle_153 : decode y_Sm_settle.2.1 153 = .ok (.iastore, 1) := by decide +kernel
theorem d_Sm_settle_154 : decode y_Sm_settle.2.1 154 = .ok (.aload_n 0, 1) := by decide +kernel
theorem d_Sm_settle_155 : decode y_Sm_settle.2.1 155 = .ok (.getfield 15, 3) := by decide +kernel
theorem d_Sm_settle_158 : decode y_Sm_settle.2.1 158 = .ok (.iload_n 3, 1) := by decide +kernel
theorem d_Sm_settle_159 : decode y_Sm_settle.2.1 159 = .ok (.dup2, 1) := by decide +kernel
theorem d_Sm_settle_160 : decode y_Sm_settle.2.1 160 = .ok (.iaload, 1) := by decide +kernel
theorem d_Sm_settle_161 : decode y_Sm_settle.2.1 161 = .ok (.aload_n 0, 1) := by decide +kernel
theorem d_Sm_settle_162 : decode y_Sm_settle.2.1 162 = .ok (.getfield 39, 3) := by decide +kernel
theorem d_Sm_settle_165 : decode y_Sm_settle.2.1 165 = .ok (.iload_n 2, 1) := by decide +kernel
theorem d_Sm_settle_166 : decode y_Sm_settle.2.1 166 = .ok (.iaload, 1) := by decide +kernel
theorem d_Sm_settle_167 : decode y_Sm_settle.2.1 167 = .ok (.iload 4, 2) := by decide +kernel
theorem d_Sm_settle_169 : decode y_Sm_settle.2.1 169 = .ok (.iadd, 1) := by decide +kernel
theorem d_Sm_settle_170 : decode y_Sm_settle.2.1 170 = .ok (.iadd, 1) := by decide +kernel
theorem d_Sm_settle_171 : decode y_Sm_settle.2.1 171 = .ok (.iastore, 1) := by decide +kernel
theorem d_Sm_settle_172 : decode y_Sm_settle.2.1 172 = .ok (.return_, 1) := by decide +kernel
theorem d_Sm_wash_0 : decode y_Sm_wash.2.1 0 = .ok (.aload_n 0, 1) := by decide +kernel
theorem d_Sm_wash_1 : decode y_Sm_wash.2.1 1 = .ok (.iload_n 2, 1) := by decide +kernel
theorem d_Sm_wash_2 : decode y_Sm_wash.2.1 2 = .ok (.iload_n 1, 1) := by decide +kernel
theorem d_Sm_wash_3 : decode y_Sm_wash.2.1 3 = .ok (.invokevirtual 104, 3) := by decide +kernel
theorem d_Sm_wash_6 : decode y_Sm_wash.2.1 6 = .ok (.iconst 4, 1) := by decide +kernel
theorem d_Sm_wash_7 : decode y_Sm_wash.2.1 7 = .ok (.idiv, 1) := by decide +kernel
theorem d_Sm_wash_8 : decode y_Sm_wash.2.1 8 = .ok (.istore_n 3, 1) := by decide +kernel
theorem d_Sm_wash_9 : decode y_Sm_wash.2.1 9 = .ok (.aload_n 0, 1) := by decide +kernel
theorem d_Sm_wash_10 : decode y_Sm_wash.2.1 10 = .ok (.getfield 15, 3) := by decide +kernel
theorem d_Sm_wash_13 : decode y_Sm_wash.2.1 13 = .ok (.iload_n 1, 1) := by decide +kernel
theorem d_Sm_wash_14 : decode y_Sm_wash.2.1 14 = .ok (.bipush 8, 2) := by decide +kernel
theorem d_Sm_wash_16 : decode y_Sm_wash.2.1 16 = .ok (.imul, 1) := by decide +kernel
theorem d_Sm_wash_17 : decode y_Sm_wash.2.1 17 = .ok (.iload_n 2, 1) := by decide +kernel
theorem d_Sm_wash_18 : decode y_Sm_wash.2.1 18 = .ok (.iadd, 1) := by decide +kernel
theorem d_Sm_wash_19 : decode y_Sm_wash.2.1 19 = .ok (.dup2, 1) := by decide +kernel
theorem d_Sm_wash_20 : decode y_Sm_wash.2.1 20 = .ok (.iaload, 1) := by decide +kernel
theorem d_Sm_wash_21 : decode y_Sm_wash.2.1 21 = .ok (.iload_n 3, 1) := by decide +kernel
theorem d_Sm_wash_22 : decode y_Sm_wash.2.1 22 = .ok (.isub, 1) := by decide +kernel
theorem d_Sm_wash_23 : decode y_Sm_wash.2.1 23 = .ok (.iastore, 1) := by decide +kernel
theorem d_Sm_wash_24 : decode y_Sm_wash.2.1 24 = .ok (.aload_n 0, 1) := by decide +kernel
theorem d_Sm_wash_25 : decode y_Sm_wash.2.1 25 = .ok (.getfield 21, 3) := by decide +kernel
theorem d_Sm_wash_28 : decode y_Sm_wash.2.1 28 = .ok (.iload_n 1, 1) := by decide +kernel
theorem d_Sm_wash_29 : decode y_Sm_wash.2.1 29 = .ok (.iconst 3, 1) := by decide +kernel
theorem d_Sm_wash_30 : decode y_Sm_wash.2.1 30 = .ok (.imul, 1) := by decide +kernel
theorem d_Sm_wash_31 : decode y_Sm_wash.2.1 31 = .ok (.iconst 2, 1) := by decide +kernel
theorem d_Sm_wash_32 : decode y_Sm_wash.2.1 32 = .ok (.iadd, 1) := by decide +kernel
theorem d_Sm_wash_33 : decode y_Sm_wash.2.1 33 = .ok (.dup2, 1) := by decide +kernel
theorem d_Sm_wash_34 : decode y_Sm_wash.2.1 34 = .ok (.iaload, 1) := by decide +kernel
theorem d_Sm_wash_35 : decode y_Sm_wash.2.1 35 = .ok (.iload_n 3, 1) := by decide +kernel
theorem d_Sm_wash_36 : decode y_Sm_wash.2.1 36 = .ok (.iadd, 1) := by decide +kernel
theorem d_Sm_wash_37 : decode y_Sm_wash.2.1 37 = .ok (.iastore, 1) := by decide +kernel
theorem d_Sm_wash_38 : decode y_Sm_wash.2.1 38 = .ok (.return_, 1) := by decide +kernel
theorem d_Ta_init_0 : decode y_Ta_init.2.1 0 = .ok (.aload_n 0, 1) := by decide +kernel
theorem d_Ta_init_1 : decode y_Ta_init.2.1 1 = .ok (.invokespecial 1, 3) := by decide +kernel
theorem d_Ta_init_4 : decode y_Ta_init.2.1 4 = .ok (.aload_n 0, 1) := by decide +kernel
theorem d_Ta_init_5 : decode y_Ta_init.2.1 5 = .ok (.iload_n 1, 1) := by decide +kernel
theorem d_Ta_init_6 : decode y_Ta_init.2.1 6 = .ok (.iconst 0, 1) := by decide +kernel
theorem d_Ta_init_7 : decode y_Ta_init.2.1 7 = .ok (.invokestatic 7, 3) := by decide +kernel
theorem d_Ta_init_10 : decode y_Ta_init.2.1 10 = .ok (.putfield 13, 3) := by decide +kernel
theorem d_Ta_init_13 : decode y_Ta_init.2.1 13 = .ok (.aload_n 0, 1) := by decide +kernel
theorem d_Ta_init_14 : decode y_Ta_init.2.1 14 = .ok (.aload_n 0, 1) := by decide +kernel
theorem d_Ta_init_15 : decode y_Ta_init.2.1 15 = .ok (.getfield 13, 3) := by decide +kernel
theorem d_Ta_init_18 : decode y_Ta_init.2.1 18 = .ok (.bipush 6, 2) := by decide +kernel
theorem d_Ta_init_20 : decode y_Ta_init.2.1 20 = .ok (.imul, 1) := by decide +kernel
theorem d_Ta_init_21 : decode y_Ta_init.2.1 21 = .ok (.newarray .int, 2) := by decide +kernel
theorem d_Ta_init_23 : decode y_Ta_init.2.1 23 = .ok (.putfield 19, 3) := by decide +kernel
theorem d_Ta_init_26 : decode y_Ta_init.2.1 26 = .ok (.return_, 1) := by decide +kernel
theorem d_Ta_size_0 : decode y_Ta_size.2.1 0 = .ok (.aload_n 0, 1) := by decide +kernel
theorem d_Ta_size_1 : decode y_Ta_size.2.1 1 = .ok (.getfield 23, 3) := by decide +kernel
theorem d_Ta_size_4 : decode y_Ta_size.2.1 4 = .ok (.ireturn, 1) := by decide +kernel
theorem d_Ta_isFull_0 : decode y_Ta_isFull.2.1 0 = .ok (.aload_n 0, 1) := by decide +kernel
theorem d_Ta_isFull_1 : decode y_Ta_isFull.2.1 1 = .ok (.getfield 23, 3) := by decide +kernel
theorem d_Ta_isFull_4 : decode y_Ta_isFull.2.1 4 = .ok (.aload_n 0, 1) := by decide +kernel
theorem d_Ta_isFull_5 : decode y_Ta_isFull.2.1 5 = .ok (.getfield 13, 3) := by decide +kernel
theorem d_Ta_isFull_8 : decode y_Ta_isFull.2.1 8 = .ok (.if_icmp .lt 7, 3) := by decide +kernel
theorem d_Ta_isFull_11 : decode y_Ta_isFull.2.1 11 = .ok (.iconst 1, 1) := by decide +kernel
theorem d_Ta_isFull_12 : decode y_Ta_isFull.2.1 12 = .ok (.goto 4, 3) := by decide +kernel
theorem d_Ta_isFull_15 : decode y_Ta_isFull.2.1 15 = .ok (.iconst 0, 1) := by decide +kernel
theorem d_Ta_isFull_16 : decode y_Ta_isFull.2.1 16 = .ok (.ireturn, 1) := by decide +kernel
theorem d_Ta_has_0 : decode y_Ta_has.2.1 0 = .ok (.iload_n 1, 1) := by decide +kernel
theorem d_Ta_has_1 : decode y_Ta_has.2.1 1 = .ok (.ifCond .lt 15, 3) := by decide +kernel
theorem d_Ta_has_4 : decode y_Ta_has.2.1 4 = .ok (.iload_n 1, 1) := by decide +kernel
theorem d_Ta_has_5 : decode y_Ta_has.2.1 5 = .ok (.aload_n 0, 1) := by decide +kernel
theorem d_Ta_has_6 : decode y_Ta_has.2.1 6 = .ok (.getfield 23, 3) := by decide +kernel
theorem d_Ta_has_9 : decode y_Ta_has.2.1 9 = .ok (.if_icmp .ge 7, 3) := by decide +kernel
theorem d_Ta_has_12 : decode y_Ta_has.2.1 12 = .ok (.iconst 1, 1) := by decide +kernel
theorem d_Ta_has_13 : decode y_Ta_has.2.1 13 = .ok (.goto 4, 3) := by decide +kernel
theorem d_Ta_has_16 : decode y_Ta_has.2.1 16 = .ok (.iconst 0, 1) := by decide +kernel
theorem d_Ta_has_17 : decode y_Ta_has.2.1 17 = .ok (.ireturn, 1) := by decide +kernel
theorem d_Ta_at_0 : decode y_Ta_at.2.1 0 = .ok (.iload_n 1, 1) := by decide +kernel
theorem d_Ta_at_1 : decode y_Ta_at.2.1 1 = .ok (.ifCond .lt 21, 3) := by decide +kernel
theorem d_Ta_at_4 : decode y_Ta_at.2.1 4 = .ok (.iload_n 1, 1) := by decide +kernel
theorem d_Ta_at_5 : decode y_Ta_at.2.1 5 = .ok (.aload_n 0, 1) := by decide +kernel
theorem d_Ta_at_6 : decode y_Ta_at.2.1 6 = .ok (.getfield 13, 3) := by decide +kernel
theorem d_Ta_at_9 : decode y_Ta_at.2.1 9 = .ok (.if_icmp .ge 13, 3) := by decide +kernel
theorem d_Ta_at_12 : decode y_Ta_at.2.1 12 = .ok (.iload_n 2, 1) := by decide +kernel
theorem d_Ta_at_13 : decode y_Ta_at.2.1 13 = .ok (.ifCond .lt 9, 3) := by decide +kernel
theorem d_Ta_at_16 : decode y_Ta_at.2.1 16 = .ok (.iload_n 2, 1) := by decide +kernel
theorem d_Ta_at_17 : decode y_Ta_at.2.1 17 = .ok (.bipush 6, 2) := by decide +kernel
theorem d_Ta_at_19 : decode y_Ta_at.2.1 19 = .ok (.if_icmp .lt 5, 3) := by decide +kernel
theorem d_Ta_at_22 : decode y_Ta_at.2.1 22 = .ok (.iconst 0, 1) := by decide +kernel
theorem d_Ta_at_23 : decode y_Ta_at.2.1 23 = .ok (.ireturn, 1) := by decide +kernel
theorem d_Ta_at_24 : decode y_Ta_at.2.1 24 = .ok (.aload_n 0, 1) := by decide +kernel
theorem d_Ta_at_25 : decode y_Ta_at.2.1 25 = .ok (.getfield 19, 3) := by decide +kernel
theorem d_Ta_at_28 : decode y_Ta_at.2.1 28 = .ok (.iload_n 1, 1) := by decide +kernel
theorem d_Ta_at_29 : decode y_Ta_at.2.1 29 = .ok (.bipush 6, 2) := by decide +kernel
theorem d_Ta_at_31 : decode y_Ta_at.2.1 31 = .ok (.imul, 1) := by decide +kernel
theorem d_Ta_at_32 : decode y_Ta_at.2.1 32 = .ok (.iload_n 2, 1) := by decide +kernel
theorem d_Ta_at_33 : decode y_Ta_at.2.1 33 = .ok (.iadd, 1) := by decide +kernel
theorem d_Ta_at_34 : decode y_Ta_at.2.1 34 = .ok (.iaload, 1) := by decide +kernel
theorem d_Ta_at_35 : decode y_Ta_at.2.1 35 = .ok (.ireturn, 1) := by decide +kernel
theorem d_Ta_put_0 : decode y_Ta_put.2.1 0 = .ok (.iload_n 1, 1) := by decide +kernel
theorem d_Ta_put_1 : decode y_Ta_put.2.1 1 = .ok (.ifCond .lt 33, 3) := by decide +kernel
theorem d_Ta_put_4 : decode y_Ta_put.2.1 4 = .ok (.iload_n 1, 1) := by decide +kernel
theorem d_Ta_put_5 : decode y_Ta_put.2.1 5 = .ok (.aload_n 0, 1) := by decide +kernel
theorem d_Ta_put_6 : decode y_Ta_put.2.1 6 = .ok (.getfield 13, 3) := by decide +kernel
theorem d_Ta_put_9 : decode y_Ta_put.2.1 9 = .ok (.if_icmp .ge 25, 3) := by decide +kernel
theorem d_Ta_put_12 : decode y_Ta_put.2.1 12 = .ok (.iload_n 2, 1) := by decide +kernel
theorem d_Ta_put_13 : decode y_Ta_put.2.1 13 = .ok (.ifCond .lt 21, 3) := by decide +kernel
theorem d_Ta_put_16 : decode y_Ta_put.2.1 16 = .ok (.iload_n 2, 1) := by decide +kernel
theorem d_Ta_put_17 : decode y_Ta_put.2.1 17 = .ok (.bipush 6, 2) := by decide +kernel
theorem d_Ta_put_19 : decode y_Ta_put.2.1 19 = .ok (.if_icmp .ge 15, 3) := by decide +kernel
theorem d_Ta_put_22 : decode y_Ta_put.2.1 22 = .ok (.aload_n 0, 1) := by decide +kernel
theorem d_Ta_put_23 : decode y_Ta_put.2.1 23 = .ok (.getfield 19, 3) := by decide +kernel
theorem d_Ta_put_26 : decode y_Ta_put.2.1 26 = .ok (.iload_n 1, 1) := by decide +kernel
theorem d_Ta_put_27 : decode y_Ta_put.2.1 27 = .ok (.bipush 6, 2) := by decide +kernel
theorem d_Ta_put_29 : decode y_Ta_put.2.1 29 = .ok (.imul, 1) := by decide +kernel
theorem d_Ta_put_30 : decode y_Ta_put.2.1 30 = .ok (.iload_n 2, 1) := by decide +kernel
theorem d_Ta_put_31 : decode y_Ta_put.2.1 31 = .ok (.iadd, 1) := by decide +kernel
theorem d_Ta_put_32 : decode y_Ta_put.2.1 32 = .ok (.iload_n 3, 1) := by decide +kernel
theorem d_Ta_put_33 : decode y_Ta_put.2.1 33 = .ok (.iastore, 1) := by decide +kernel
theorem d_Ta_put_34 : decode y_Ta_put.2.1 34 = .ok (.return_, 1) := by decide +kernel
theorem d_Ta_draft_0 : decode y_Ta_draft.2.1 0 = .ok (.aload_n 0, 1) := by decide +kernel
theorem d_Ta_draft_1 : decode y_Ta_draft.2.1 1 = .ok (.aload_n 0, 1) := by decide +kernel
theorem d_Ta_draft_2 : decode y_Ta_draft.2.1 2 = .ok (.getfield 23, 3) := by decide +kernel
theorem d_Ta_draft_5 : decode y_Ta_draft.2.1 5 = .ok (.iconst 0, 1) := by decide +kernel
theorem d_Ta_draft_6 : decode y_Ta_draft.2.1 6 = .ok (.iload_n 1, 1) := by decide +kernel
theorem d_Ta_draft_7 : decode y_Ta_draft.2.1 7 = .ok (.invokevirtual 26, 3) := by decide +kernel
theorem d_Ta_draft_10 : decode y_Ta_draft.2.1 10 = .ok (.aload_n 0, 1) := by decide +kernel
theorem d_Ta_draft_11 : decode y_Ta_draft.2.1 11 = .ok (.aload_n 0, 1) := by decide +kernel
theorem d_Ta_draft_12 : decode y_Ta_draft.2.1 12 = .ok (.getfield 23, 3) := by decide +kernel
theorem d_Ta_draft_15 : decode y_Ta_draft.2.1 15 = .ok (.iconst 1, 1) := by decide +kernel
theorem d_Ta_draft_16 : decode y_Ta_draft.2.1 16 = .ok (.iload_n 2, 1) := by decide +kernel
theorem d_Ta_draft_17 : decode y_Ta_draft.2.1 17 = .ok (.invokevirtual 26, 3) := by decide +kernel
theorem d_Ta_draft_20 : decode y_Ta_draft.2.1 20 = .ok (.aload_n 0, 1) := by decide +kernel
theorem d_Ta_draft_21 : decode y_Ta_draft.2.1 21 = .ok (.aload_n 0, 1) := by decide +kernel
theorem d_Ta_draft_22 : decode y_Ta_draft.2.1 22 = .ok (.getfield 23, 3) := by decide +kernel
theorem d_Ta_draft_25 : decode y_Ta_draft.2.1 25 = .ok (.iconst 2, 1) := by decide +kernel
theorem d_Ta_draft_26 : decode y_Ta_draft.2.1 26 = .ok (.iload_n 3, 1) := by decide +kernel
theorem d_Ta_draft_27 : decode y_Ta_draft.2.1 27 = .ok (.invokevirtual 26, 3) := by decide +kernel
theorem d_Ta_draft_30 : decode y_Ta_draft.2.1 30 = .ok (.aload_n 0, 1) := by decide +kernel
theorem d_Ta_draft_31 : decode y_Ta_draft.2.1 31 = .ok (.aload_n 0, 1) := by decide +kernel
theorem d_Ta_draft_32 : decode y_Ta_draft.2.1 32 = .ok (.getfield 23, 3) := by decide +kernel
theorem d_Ta_draft_35 : decode y_Ta_draft.2.1 35 = .ok (.iconst 3, 1) := by decide +kernel
theorem d_Ta_draft_36 : decode y_Ta_draft.2.1 36 = .ok (.iload 4, 2) := by decide +kernel
theorem d_Ta_draft_38 : decode y_Ta_draft.2.1 38 = .ok (.invokevirtual 26, 3) := by decide +kernel
theorem d_Ta_draft_41 : decode y_Ta_draft.2.1 41 = .ok (.aload_n 0, 1) := by decide +kernel
theorem d_Ta_draft_42 : decode y_Ta_draft.2.1 42 = .ok (.aload_n 0, 1) := by decide +kernel
theorem d_Ta_draft_43 : decode y_Ta_draft.2.1 43 = .ok (.getfield 23, 3) := by decide +kernel
theorem d_Ta_draft_46 : decode y_Ta_draft.2.1 46 = .ok (.iconst 4, 1) := by decide +kernel
theorem d_Ta_draft_47 : decode y_Ta_draft.2.1 47 = .ok (.iload 5, 2) := by decide +kernel
theorem d_Ta_draft_49 : decode y_Ta_draft.2.1 49 = .ok (.invokevirtual 26, 3) := by decide +kernel
theorem d_Ta_draft_52 : decode y_Ta_draft.2.1 52 = .ok (.aload_n 0, 1) := by decide +kernel
theorem d_Ta_draft_53 : decode y_Ta_draft.2.1 53 = .ok (.aload_n 0, 1) := by decide +kernel
theorem d_Ta_draft_54 : decode y_Ta_draft.2.1 54 = .ok (.getfield 23, 3) := by decide +kernel
theorem d_Ta_draft_57 : decode y_Ta_draft.2.1 57 = .ok (.iconst 5, 1) := by decide +kernel
theorem d_Ta_draft_58 : decode y_Ta_draft.2.1 58 = .ok (.iload 6, 2) := by decide +kernel
theorem d_Ta_draft_60 : decode y_Ta_draft.2.1 60 = .ok (.invokevirtual 26, 3) := by decide +kernel
theorem d_Ta_draft_63 : decode y_Ta_draft.2.1 63 = .ok (.return_, 1) := by decide +kernel
theorem d_Ta_grow_0 : decode y_Ta_grow.2.1 0 = .ok (.aload_n 0, 1) := by decide +kernel
theorem d_Ta_grow_1 : decode y_Ta_grow.2.1 1 = .ok (.getfield 23, 3) := by decide +kernel
theorem d_Ta_grow_4 : decode y_Ta_grow.2.1 4 = .ok (.aload_n 0, 1) := by decide +kernel
theorem d_Ta_grow_5 : decode y_Ta_grow.2.1 5 = .ok (.getfield 13, 3) := by decide +kernel
theorem d_Ta_grow_8 : decode y_Ta_grow.2.1 8 = .ok (.if_icmp .ge 13, 3) := by decide +kernel
theorem d_Ta_grow_11 : decode y_Ta_grow.2.1 11 = .ok (.aload_n 0, 1) := by decide +kernel
theorem d_Ta_grow_12 : decode y_Ta_grow.2.1 12 = .ok (.dup, 1) := by decide +kernel
theorem d_Ta_grow_13 : decode y_Ta_grow.2.1 13 = .ok (.getfield 23, 3) := by decide +kernel
theorem d_Ta_grow_16 : decode y_Ta_grow.2.1 16 = .ok (.iconst 1, 1) := by decide +kernel
theorem d_Ta_grow_17 : decode y_Ta_grow.2.1 17 = .ok (.iadd, 1) := by decide +kernel
theorem d_Ta_grow_18 : decode y_Ta_grow.2.1 18 = .ok (.putfield 23, 3) := by decide +kernel
theorem d_Ta_grow_21 : decode y_Ta_grow.2.1 21 = .ok (.return_, 1) := by decide +kernel
theorem d_Ta_shrink_0 : decode y_Ta_shrink.2.1 0 = .ok (.aload_n 0, 1) := by decide +kernel
theorem d_Ta_shrink_1 : decode y_Ta_shrink.2.1 1 = .ok (.getfield 23, 3) := by decide +kernel
theorem d_Ta_shrink_4 : decode y_Ta_shrink.2.1 4 = .ok (.ifCond .le 13, 3) := by decide +kernel
theorem d_Ta_shrink_7 : decode y_Ta_shrink.2.1 7 = .ok (.aload_n 0, 1) := by decide +kernel
theorem d_Ta_shrink_8 : decode y_Ta_shrink.2.1 8 = .ok (.dup, 1) := by decide +kernel
theorem d_Ta_shrink_9 : decode y_Ta_shrink.2.1 9 = .ok (.getfield 23, 3) := by decide +kernel
theorem d_Ta_shrink_12 : decode y_Ta_shrink.2.1 12 = .ok (.iconst 1, 1) := by decide +kernel
theorem d_Ta_shrink_13 : decode y_Ta_shrink.2.1 13 = .ok (.isub, 1) := by decide +kernel
theorem d_Ta_shrink_14 : decode y_Ta_shrink.2.1 14 = .ok (.putfield 23, 3) := by decide +kernel
theorem d_Ta_shrink_17 : decode y_Ta_shrink.2.1 17 = .ok (.return_, 1) := by decide +kernel
theorem d_Tu_init_0 : decode y_Tu_init.2.1 0 = .ok (.aload_n 0, 1) := by decide +kernel
theorem d_Tu_init_1 : decode y_Tu_init.2.1 1 = .ok (.invokespecial 3, 3) := by decide +kernel
theorem d_Tu_init_4 : decode y_Tu_init.2.1 4 = .ok (.aload_n 0, 1) := by decide +kernel
theorem d_Tu_init_5 : decode y_Tu_init.2.1 5 = .ok (.bipush 80, 2) := by decide +kernel
theorem d_Tu_init_7 : decode y_Tu_init.2.1 7 = .ok (.newarray .int, 2) := by decide +kernel
theorem d_Tu_init_9 : decode y_Tu_init.2.1 9 = .ok (.putfield 9, 3) := by decide +kernel
theorem d_Tu_init_12 : decode y_Tu_init.2.1 12 = .ok (.aload_n 0, 1) := by decide +kernel
theorem d_Tu_init_13 : decode y_Tu_init.2.1 13 = .ok (.bipush 80, 2) := by decide +kernel
theorem d_Tu_init_15 : decode y_Tu_init.2.1 15 = .ok (.newarray .int, 2) := by decide +kernel
theorem d_Tu_init_17 : decode y_Tu_init.2.1 17 = .ok (.putfield 15, 3) := by decide +kernel
theorem d_Tu_init_20 : decode y_Tu_init.2.1 20 = .ok (.aload_n 0, 1) := by decide +kernel
theorem d_Tu_init_21 : decode y_Tu_init.2.1 21 = .ok (.bipush 16, 2) := by decide +kernel
theorem d_Tu_init_23 : decode y_Tu_init.2.1 23 = .ok (.newarray .int, 2) := by decide +kernel
theorem d_Tu_init_25 : decode y_Tu_init.2.1 25 = .ok (.putfield 18, 3) := by decide +kernel
theorem d_Tu_init_28 : decode y_Tu_init.2.1 28 = .ok (.aload_n 0, 1) := by decide +kernel
theorem d_Tu_init_29 : decode y_Tu_init.2.1 29 = .ok (.aload_n 1, 1) := by decide +kernel
theorem d_Tu_init_30 : decode y_Tu_init.2.1 30 = .ok (.putfield 21, 3) := by decide +kernel
theorem d_Tu_init_33 : decode y_Tu_init.2.1 33 = .ok (.aload_n 0, 1) := by decide +kernel
theorem d_Tu_init_34 : decode y_Tu_init.2.1 34 = .ok (.aload_n 2, 1) := by decide +kernel
theorem d_Tu_init_35 : decode y_Tu_init.2.1 35 = .ok (.putfield 25, 3) := by decide +kernel
theorem d_Tu_init_38 : decode y_Tu_init.2.1 38 = .ok (.aload_n 0, 1) := by decide +kernel
theorem d_Tu_init_39 : decode y_Tu_init.2.1 39 = .ok (.aload_n 3, 1) := by decide +kernel
theorem d_Tu_init_40 : decode y_Tu_init.2.1 40 = .ok (.putfield 29, 3) := by decide +kernel
theorem d_Tu_init_43 : decode y_Tu_init.2.1 43 = .ok (.aload_n 0, 1) := by decide +kernel
theorem d_Tu_init_44 : decode y_Tu_init.2.1 44 = .ok (.aload 4, 2) := by decide +kernel
theorem d_Tu_init_46 : decode y_Tu_init.2.1 46 = .ok (.putfield 33, 3) := by decide +kernel
theorem d_Tu_init_49 : decode y_Tu_init.2.1 49 = .ok (.aload_n 0, 1) := by decide +kernel
theorem d_Tu_init_50 : decode y_Tu_init.2.1 50 = .ok (.aload 5, 2) := by decide +kernel
theorem d_Tu_init_52 : decode y_Tu_init.2.1 52 = .ok (.putfield 37, 3) := by decide +kernel
theorem d_Tu_init_55 : decode y_Tu_init.2.1 55 = .ok (.return_, 1) := by decide +kernel
theorem d_Tu_outBy_0 : decode y_Tu_outBy.2.1 0 = .ok (.iload_n 3, 1) := by decide +kernel
theorem d_Tu_outBy_1 : decode y_Tu_outBy.2.1 1 = .ok (.ifCond .ne 7, 3) := by decide +kernel
theorem d_Tu_outBy_4 : decode y_Tu_outBy.2.1 4 = .ok (.iload_n 2, 1) := by decide +kernel
theorem d_Tu_outBy_5 : decode y_Tu_outBy.2.1 5 = .ok (.goto 4, 3) := by decide +kernel
theorem d_Tu_outBy_8 : decode y_Tu_outBy.2.1 8 = .ok (.iload_n 1, 1) := by decide +kernel
theorem d_Tu_outBy_9 : decode y_Tu_outBy.2.1 9 = .ok (.istore 6, 2) := by decide +kernel
theorem d_Tu_outBy_11 : decode y_Tu_outBy.2.1 11 = .ok (.iload_n 3, 1) := by decide +kernel
theorem d_Tu_outBy_12 : decode y_Tu_outBy.2.1 12 = .ok (.iload 5, 2) := by decide +kernel
theorem d_Tu_outBy_14 : decode y_Tu_outBy.2.1 14 = .ok (.if_icmp .lt 8, 3) := by decide +kernel
theorem d_Tu_outBy_17 : decode y_Tu_outBy.2.1 17 = .ok (.iload 6, 2) := by decide +kernel
theorem d_Tu_outBy_19 : decode y_Tu_outBy.2.1 19 = .ok (.goto 4, 3) := by decide +kernel
theorem d_Tu_outBy_22 : decode y_Tu_outBy.2.1 22 = .ok (.iload_n 2, 1) := by decide +kernel
theorem d_Tu_outBy_23 : decode y_Tu_outBy.2.1 23 = .ok (.istore 7, 2) := by decide +kernel
theorem d_Tu_outBy_25 : decode y_Tu_outBy.2.1 25 = .ok (.iload 6, 2) := by decide +kernel
theorem d_Tu_outBy_27 : decode y_Tu_outBy.2.1 27 = .ok (.iload 7, 2) := by decide +kernel
theorem d_Tu_outBy_29 : decode y_Tu_outBy.2.1 29 = .ok (.if_icmp .ne 7, 3) := by decide +kernel
theorem d_Tu_outBy_32 : decode y_Tu_outBy.2.1 32 = .ok (.iconst 0, 1) := by decide +kernel
theorem d_Tu_outBy_33 : decode y_Tu_outBy.2.1 33 = .ok (.goto 4, 3) := by decide +kernel
theorem d_Tu_outBy_36 : decode y_Tu_outBy.2.1 36 = .ok (.iload_n 3, 1) := by decide +kernel
theorem d_Tu_outBy_37 : decode y_Tu_outBy.2.1 37 = .ok (.istore 8, 2) := by decide +kernel
theorem d_Tu_outBy_39 : decode y_Tu_outBy.2.1 39 = .ok (.iload 4, 2) := by decide +kernel
theorem d_Tu_outBy_41 : decode y_Tu_outBy.2.1 41 = .ok (.iconst (-1), 1) := by decide +kernel
theorem d_Tu_outBy_42 : decode y_Tu_outBy.2.1 42 = .ok (.if_icmp .ne 7, 3) := by decide +kernel
theorem d_Tu_outBy_45 : decode y_Tu_outBy.2.1 45 = .ok (.iconst 4, 1) := by decide +kernel
theorem d_Tu_outBy_46 : decode y_Tu_outBy.2.1 46 = .ok (.goto 5, 3) := by decide +kernel
theorem d_Tu_outBy_49 : decode y_Tu_outBy.2.1 49 = .ok (.iload 4, 2) := by decide +kernel
theorem d_Tu_outBy_51 : decode y_Tu_outBy.2.1 51 = .ok (.iconst 4, 1) := by decide +kernel
theorem d_Tu_outBy_52 : decode y_Tu_outBy.2.1 52 = .ok (.imul, 1) := by decide +kernel
theorem d_Tu_outBy_53 : decode y_Tu_outBy.2.1 53 = .ok (.iload 6, 2) := by decide +kernel
theorem d_Tu_outBy_55 : decode y_Tu_outBy.2.1 55 = .ok (.iadd, 1) := by decide +kernel
theorem d_Tu_outBy_56 : decode y_Tu_outBy.2.1 56 = .ok (.iconst 4, 1) := by decide +kernel
theorem d_Tu_outBy_57 : decode y_Tu_outBy.2.1 57 = .ok (.imul, 1) := by decide +kernel
theorem d_Tu_outBy_58 : decode y_Tu_outBy.2.1 58 = .ok (.iload 7, 2) := by decide +kernel
theorem d_Tu_outBy_60 : decode y_Tu_outBy.2.1 60 = .ok (.iadd, 1) := by decide +kernel
theorem d_Tu_outBy_61 : decode y_Tu_outBy.2.1 61 = .ok (.istore 9, 2) := by decide +kernel
theorem d_Tu_outBy_63 : decode y_Tu_outBy.2.1 63 = .ok (.iload 9, 2) := by decide +kernel
theorem d_Tu_outBy_65 : decode y_Tu_outBy.2.1 65 = .ok (.ifCond .lt 13, 3) := by decide +kernel
theorem d_Tu_outBy_68 : decode y_Tu_outBy.2.1 68 = .ok (.iload 9, 2) := by decide +kernel
theorem d_Tu_outBy_70 : decode y_Tu_outBy.2.1 70 = .ok (.aload_n 0, 1) := by decide +kernel
theorem d_Tu_outBy_71 : decode y_Tu_outBy.2.1 71 = .ok (.getfield 9, 3) := by decide +kernel
theorem d_Tu_outBy_74 : decode y_Tu_outBy.2.1 74 = .ok (.arraylength, 1) := by decide +kernel
theorem d_Tu_outBy_75 : decode y_Tu_outBy.2.1 75 = .ok (.if_icmp .lt 5, 3) := by decide +kernel
theorem d_Tu_outBy_78 : decode y_Tu_outBy.2.1 78 = .ok (.iconst 0, 1) := by decide +kernel
theorem d_Tu_outBy_79 : decode y_Tu_outBy.2.1 79 = .ok (.ireturn, 1) := by decide +kernel
theorem d_Tu_outBy_80 : decode y_Tu_outBy.2.1 80 = .ok (.aload_n 0, 1) := by decide +kernel
theorem d_Tu_outBy_81 : decode y_Tu_outBy.2.1 81 = .ok (.getfield 25, 3) := by decide +kernel
theorem d_Tu_outBy_84 : decode y_Tu_outBy.2.1 84 = .ok (.invokevirtual 41, 3) := by decide +kernel
theorem d_Tu_outBy_87 : decode y_Tu_outBy.2.1 87 = .ok (.bipush 21, 2) := by decide +kernel
theorem d_Tu_outBy_89 : decode y_Tu_outBy.2.1 89 = .ok (.imul, 1) := by decide +kernel
theorem d_Tu_outBy_90 : decode y_Tu_outBy.2.1 90 = .ok (.iload 8, 2) := by decide +kernel
theorem d_Tu_outBy_92 : decode y_Tu_outBy.2.1 92 = .ok (.iadd, 1) := by decide +kernel
theorem d_Tu_outBy_93 : decode y_Tu_outBy.2.1 93 = .ok (.bipush 21, 2) := by decide +kernel
theorem d_Tu_outBy_95 : decode y_Tu_outBy.2.1 95 = .ok (.imul, 1) := by decide +kernel
theorem d_Tu_outBy_96 : decode y_Tu_outBy.2.1 96 = .ok (.iload 5, 2) := by decide +kernel
theorem d_Tu_outBy_98 : decode y_Tu_outBy.2.1 98 = .ok (.iadd, 1) := by decide +kernel
theorem d_Tu_outBy_99 : decode y_Tu_outBy.2.1 99 = .ok (.iconst 1, 1) := by decide +kernel
theorem d_Tu_outBy_100 : decode y_Tu_outBy.2.1 100 = .ok (.iadd, 1) := by decide +kernel
theorem d_Tu_outBy_101 : decode y_Tu_outBy.2.1 101 = .ok (.istore 10, 2) := by decide +kernel
theorem d_Tu_outBy_103 : decode y_Tu_outBy.2.1 103 = .ok (.aload_n 0, 1) := by decide +kernel
theorem d_Tu_outBy_104 : decode y_Tu_outBy.2.1 104 = .ok (.getfield 15, 3) := by decide +kernel
theorem d_Tu_outBy_107 : decode y_Tu_outBy.2.1 107 = .ok (.iload 9, 2) := by decide +kernel
theorem d_Tu_outBy_109 : decode y_Tu_outBy.2.1 109 = .ok (.iaload, 1) := by decide +kernel
theorem d_Tu_outBy_110 : decode y_Tu_outBy.2.1 110 = .ok (.iload 10, 2) := by decide +kernel
theorem d_Tu_outBy_112 : decode y_Tu_outBy.2.1 112 = .ok (.if_icmp .eq 57, 3) := by decide +kernel
theorem d_Tu_outBy_115 : decode y_Tu_outBy.2.1 115 = .ok (.aload_n 0, 1) := by decide +kernel
theorem d_Tu_outBy_116 : decode y_Tu_outBy.2.1 116 = .ok (.getfield 29, 3) := by decide +kernel
theorem d_Tu_outBy_119 : decode y_Tu_outBy.2.1 119 = .ok (.iload 6, 2) := by decide +kernel
theorem d_Tu_outBy_121 : decode y_Tu_outBy.2.1 121 = .ok (.iload 7, 2) := by decide +kernel
theorem d_Tu_outBy_123 : decode y_Tu_outBy.2.1 123 = .ok (.iload 8, 2) := by decide +kernel
theorem d_Tu_outBy_125 : decode y_Tu_outBy.2.1 125 = .ok (.iload 4, 2) := by decide +kernel
theorem d_Tu_outBy_127 : decode y_Tu_outBy.2.1 127 = .ok (.invokevirtual 47, 3) := by decide +kernel
theorem d_Tu_outBy_130 : decode y_Tu_outBy.2.1 130 = .ok (.aload_n 0, 1) := by decide +kernel
theorem d_Tu_outBy_131 : decode y_Tu_outBy.2.1 131 = .ok (.getfield 9, 3) := by decide +kernel
theorem d_Tu_outBy_134 : decode y_Tu_outBy.2.1 134 = .ok (.iload 9, 2) := by decide +kernel
theorem d_Tu_outBy_136 : decode y_Tu_outBy.2.1 136 = .ok (.aload_n 0, 1) := by decide +kernel
theorem d_Tu_outBy_137 : decode y_Tu_outBy.2.1 137 = .ok (.getfield 33, 3) := by decide +kernel
theorem d_Tu_outBy_140 : decode y_Tu_outBy.2.1 140 = .ok (.iload 5, 2) := by decide +kernel
theorem d_Tu_outBy_142 : decode y_Tu_outBy.2.1 142 = .ok (.aload_n 0, 1) := by decide +kernel
theorem d_Tu_outBy_143 : decode y_Tu_outBy.2.1 143 = .ok (.getfield 21, 3) := by decide +kernel
theorem d_Tu_outBy_146 : decode y_Tu_outBy.2.1 146 = .ok (.invokevirtual 53, 3) := by decide +kernel
theorem d_Tu_outBy_149 : decode y_Tu_outBy.2.1 149 = .ok (.aload_n 0, 1) := by decide +kernel
theorem d_Tu_outBy_150 : decode y_Tu_outBy.2.1 150 = .ok (.getfield 21, 3) := by decide +kernel
theorem d_Tu_outBy_153 : decode y_Tu_outBy.2.1 153 = .ok (.invokevirtual 58, 3) := by decide +kernel
theorem d_Tu_outBy_156 : decode y_Tu_outBy.2.1 156 = .ok (.invokevirtual 61, 3) := by decide +kernel
theorem d_Tu_outBy_159 : decode y_Tu_outBy.2.1 159 = .ok (.iastore, 1) := by decide +kernel
theorem d_Tu_outBy_160 : decode y_Tu_outBy.2.1 160 = .ok (.aload_n 0, 1) := by decide +kernel
theorem d_Tu_outBy_161 : decode y_Tu_outBy.2.1 161 = .ok (.getfield 15, 3) := by decide +kernel
theorem d_Tu_outBy_164 : decode y_Tu_outBy.2.1 164 = .ok (.iload 9, 2) := by decide +kernel
theorem d_Tu_outBy_166 : decode y_Tu_outBy.2.1 166 = .ok (.iload 10, 2) := by decide +kernel
theorem d_Tu_outBy_168 : decode y_Tu_outBy.2.1 168 = .ok (.iastore, 1) := by decide +kernel
theorem d_Tu_outBy_169 : decode y_Tu_outBy.2.1 169 = .ok (.aload_n 0, 1) := by decide +kernel
theorem d_Tu_outBy_170 : decode y_Tu_outBy.2.1 170 = .ok (.getfield 9, 3) := by decide +kernel
theorem d_Tu_outBy_173 : decode y_Tu_outBy.2.1 173 = .ok (.iload 9, 2) := by decide +kernel
theorem d_Tu_outBy_175 : decode y_Tu_outBy.2.1 175 = .ok (.iaload, 1) := by decide +kernel
theorem d_Tu_outBy_176 : decode y_Tu_outBy.2.1 176 = .ok (.ireturn, 1) := by decide +kernel
theorem d_Tu_regretOf_0 : decode y_Tu_regretOf.2.1 0 = .ok (.iconst 0, 1) := by decide +kernel
theorem d_Tu_regretOf_1 : decode y_Tu_regretOf.2.1 1 = .ok (.istore 6, 2) := by decide +kernel
theorem d_Tu_regretOf_3 : decode y_Tu_regretOf.2.1 3 = .ok (.iconst 0, 1) := by decide +kernel
theorem d_Tu_regretOf_4 : decode y_Tu_regretOf.2.1 4 = .ok (.istore 7, 2) := by decide +kernel
theorem d_Tu_regretOf_6 : decode y_Tu_regretOf.2.1 6 = .ok (.iload 7, 2) := by decide +kernel
theorem d_Tu_regretOf_8 : decode y_Tu_regretOf.2.1 8 = .ok (.iconst 4, 1) := by decide +kernel
theorem d_Tu_regretOf_9 : decode y_Tu_regretOf.2.1 9 = .ok (.if_icmp .ge 29, 3) := by decide +kernel
theorem d_Tu_regretOf_12 : decode y_Tu_regretOf.2.1 12 = .ok (.iload 6, 2) := by decide +kernel
theorem d_Tu_regretOf_14 : decode y_Tu_regretOf.2.1 14 = .ok (.aload_n 0, 1) := by decide +kernel
theorem d_Tu_regretOf_15 : decode y_Tu_regretOf.2.1 15 = .ok (.iload 7, 2) := by decide +kernel
theorem d_Tu_regretOf_17 : decode y_Tu_regretOf.2.1 17 = .ok (.iload 7, 2) := by decide +kernel
theorem d_Tu_regretOf_19 : decode y_Tu_regretOf.2.1 19 = .ok (.iconst 0, 1) := by decide +kernel
theorem d_Tu_regretOf_20 : decode y_Tu_regretOf.2.1 20 = .ok (.iload 4, 2) := by decide +kernel
theorem d_Tu_regretOf_22 : decode y_Tu_regretOf.2.1 22 = .ok (.iload 5, 2) := by decide +kernel
theorem d_Tu_regretOf_24 : decode y_Tu_regretOf.2.1 24 = .ok (.invokevirtual 67, 3) := by decide +kernel
theorem d_Tu_regretOf_27 : decode y_Tu_regretOf.2.1 27 = .ok (.invokestatic 71, 3) := by decide +kernel
theorem d_Tu_regretOf_30 : decode y_Tu_regretOf.2.1 30 = .ok (.istore 6, 2) := by decide +kernel
theorem d_Tu_regretOf_32 : decode y_Tu_regretOf.2.1 32 = .ok (.iinc 7 1, 3) := by decide +kernel
theorem d_Tu_regretOf_35 : decode y_Tu_regretOf.2.1 35 = .ok (.goto (-29), 3) := by decide +kernel
theorem d_Tu_regretOf_38 : decode y_Tu_regretOf.2.1 38 = .ok (.iload 6, 2) := by decide +kernel
theorem d_Tu_regretOf_40 : decode y_Tu_regretOf.2.1 40 = .ok (.aload_n 0, 1) := by decide +kernel
theorem d_Tu_regretOf_41 : decode y_Tu_regretOf.2.1 41 = .ok (.iload_n 1, 1) := by decide +kernel
theorem d_Tu_regretOf_42 : decode y_Tu_regretOf.2.1 42 = .ok (.iload_n 2, 1) := by decide +kernel
theorem d_Tu_regretOf_43 : decode y_Tu_regretOf.2.1 43 = .ok (.iload_n 3, 1) := by decide +kernel
theorem d_Tu_regretOf_44 : decode y_Tu_regretOf.2.1 44 = .ok (.iload 4, 2) := by decide +kernel
theorem d_Tu_regretOf_46 : decode y_Tu_regretOf.2.1 46 = .ok (.iload 5, 2) := by decide +kernel
theorem d_Tu_regretOf_48 : decode y_Tu_regretOf.2.1 48 = .ok (.invokevirtual 67, 3) := by decide +kernel
theorem d_Tu_regretOf_51 : decode y_Tu_regretOf.2.1 51 = .ok (.isub, 1) := by decide +kernel
theorem d_Tu_regretOf_52 : decode y_Tu_regretOf.2.1 52 = .ok (.ireturn, 1) := by decide +kernel
theorem d_Tu_weigh_0 : decode y_Tu_weigh.2.1 0 = .ok (.iconst 0, 1) := by decide +kernel
theorem d_Tu_weigh_1 : decode y_Tu_weigh.2.1 1 = .ok (.istore 4, 2) := by decide +kernel
theorem d_Tu_weigh_3 : decode y_Tu_weigh.2.1 3 = .ok (.iload 4, 2) := by decide +kernel
theorem d_Tu_weigh_5 : decode y_Tu_weigh.2.1 5 = .ok (.aload_n 0, 1) := by decide +kernel
theorem d_Tu_weigh_6 : decode y_Tu_weigh.2.1 6 = .ok (.getfield 21, 3) := by decide +kernel
theorem d_Tu_weigh_9 : decode y_Tu_weigh.2.1 9 = .ok (.getfield 77, 3) := by decide +kernel
theorem d_Tu_weigh_12 : decode y_Tu_weigh.2.1 12 = .ok (.invokevirtual 81, 3) := by decide +kernel
theorem d_Tu_weigh_15 : decode y_Tu_weigh.2.1 15 = .ok (.if_icmp .ge 47, 3) := by decide +kernel
theorem d_Tu_weigh_18 : decode y_Tu_weigh.2.1 18 = .ok (.iconst 0, 1) := by decide +kernel
theorem d_Tu_weigh_19 : decode y_Tu_weigh.2.1 19 = .ok (.istore 5, 2) := by decide +kernel
theorem d_Tu_weigh_21 : decode y_Tu_weigh.2.1 21 = .ok (.iload 5, 2) := by decide +kernel
theorem d_Tu_weigh_23 : decode y_Tu_weigh.2.1 23 = .ok (.iconst 4, 1) := by decide +kernel
theorem d_Tu_weigh_24 : decode y_Tu_weigh.2.1 24 = .ok (.if_icmp .ge 32, 3) := by decide +kernel
theorem d_Tu_weigh_27 : decode y_Tu_weigh.2.1 27 = .ok (.aload_n 0, 1) := by decide +kernel
theorem d_Tu_weigh_28 : decode y_Tu_weigh.2.1 28 = .ok (.getfield 18, 3) := by decide +kernel
theorem d_Tu_weigh_31 : decode y_Tu_weigh.2.1 31 = .ok (.iload 4, 2) := by decide +kernel
theorem d_Tu_weigh_33 : decode y_Tu_weigh.2.1 33 = .ok (.iconst 4, 1) := by decide +kernel
theorem d_Tu_weigh_34 : decode y_Tu_weigh.2.1 34 = .ok (.imul, 1) := by decide +kernel
theorem d_Tu_weigh_35 : decode y_Tu_weigh.2.1 35 = .ok (.iload 5, 2) := by decide +kernel
theorem d_Tu_weigh_37 : decode y_Tu_weigh.2.1 37 = .ok (.iadd, 1) := by decide +kernel
theorem d_Tu_weigh_38 : decode y_Tu_weigh.2.1 38 = .ok (.aload_n 0, 1) := by decide +kernel
theorem d_Tu_weigh_39 : decode y_Tu_weigh.2.1 39 = .ok (.iload_n 1, 1) := by decide +kernel
theorem d_Tu_weigh_40 : decode y_Tu_weigh.2.1 40 = .ok (.iload 5, 2) := by decide +kernel
theorem d_Tu_weigh_42 : decode y_Tu_weigh.2.1 42 = .ok (.iload_n 2, 1) := by decide +kernel
theorem d_Tu_weigh_43 : decode y_Tu_weigh.2.1 43 = .ok (.iload 4, 2) := by decide +kernel
theorem d_Tu_weigh_45 : decode y_Tu_weigh.2.1 45 = .ok (.iload_n 3, 1) := by decide +kernel
theorem d_Tu_weigh_46 : decode y_Tu_weigh.2.1 46 = .ok (.invokevirtual 86, 3) := by decide +kernel
theorem d_Tu_weigh_49 : decode y_Tu_weigh.2.1 49 = .ok (.iastore, 1) := by decide +kernel
theorem d_Tu_weigh_50 : decode y_Tu_weigh.2.1 50 = .ok (.iinc 5 1, 3) := by decide +kernel
theorem d_Tu_weigh_53 : decode y_Tu_weigh.2.1 53 = .ok (.goto (-32), 3) := by decide +kernel
theorem d_Tu_weigh_56 : decode y_Tu_weigh.2.1 56 = .ok (.iinc 4 1, 3) := by decide +kernel
theorem d_Tu_weigh_59 : decode y_Tu_weigh.2.1 59 = .ok (.goto (-56), 3) := by decide +kernel
theorem d_Tu_weigh_62 : decode y_Tu_weigh.2.1 62 = .ok (.return_, 1) := by decide +kernel
theorem d_Tu_planFor_0 : decode y_Tu_planFor.2.1 0 = .ok (.iconst 0, 1) := by decide +kernel
theorem d_Tu_planFor_1 : decode y_Tu_planFor.2.1 1 = .ok (.istore_n 3, 1) := by decide +kernel
theorem d_Tu_planFor_2 : decode y_Tu_planFor.2.1 2 = .ok (.iconst 1, 1) := by decide +kernel
theorem d_Tu_planFor_3 : decode y_Tu_planFor.2.1 3 = .ok (.istore 4, 2) := by decide +kernel
theorem d_Tu_planFor_5 : decode y_Tu_planFor.2.1 5 = .ok (.iload 4, 2) := by decide +kernel
theorem d_Tu_planFor_7 : decode y_Tu_planFor.2.1 7 = .ok (.iconst 4, 1) := by decide +kernel
theorem d_Tu_planFor_8 : decode y_Tu_planFor.2.1 8 = .ok (.if_icmp .ge 30, 3) := by decide +kernel
theorem d_Tu_planFor_11 : decode y_Tu_planFor.2.1 11 = .ok (.aload_n 0, 1) := by decide +kernel
theorem d_Tu_planFor_12 : decode y_Tu_planFor.2.1 12 = .ok (.iload_n 1, 1) := by decide +kernel
theorem d_Tu_planFor_13 : decode y_Tu_planFor.2.1 13 = .ok (.iload 4, 2) := by decide +kernel
theorem d_Tu_planFor_15 : decode y_Tu_planFor.2.1 15 = .ok (.iload_n 2, 1) := by decide +kernel
theorem d_Tu_planFor_16 : decode y_Tu_planFor.2.1 16 = .ok (.invokevirtual 89, 3) := by decide +kernel
theorem d_Tu_planFor_19 : decode y_Tu_planFor.2.1 19 = .ok (.aload_n 0, 1) := by decide +kernel
theorem d_Tu_planFor_20 : decode y_Tu_planFor.2.1 20 = .ok (.iload_n 1, 1) := by decide +kernel
theorem d_Tu_planFor_21 : decode y_Tu_planFor.2.1 21 = .ok (.iload_n 3, 1) := by decide +kernel
theorem d_Tu_planFor_22 : decode y_Tu_planFor.2.1 22 = .ok (.iload_n 2, 1) := by decide +kernel
theorem d_Tu_planFor_23 : decode y_Tu_planFor.2.1 23 = .ok (.invokevirtual 89, 3) := by decide +kernel
theorem d_Tu_planFor_26 : decode y_Tu_planFor.2.1 26 = .ok (.if_icmp .ge 6, 3) := by decide +kernel
theorem d_Tu_planFor_29 : decode y_Tu_planFor.2.1 29 = .ok (.iload 4, 2) := by decide +kernel
theorem d_Tu_planFor_31 : decode y_Tu_planFor.2.1 31 = .ok (.istore_n 3, 1) := by decide +kernel
theorem d_Tu_planFor_32 : decode y_Tu_planFor.2.1 32 = .ok (.iinc 4 1, 3) := by decide +kernel
theorem d_Tu_planFor_35 : decode y_Tu_planFor.2.1 35 = .ok (.goto (-30), 3) := by decide +kernel
theorem d_Tu_planFor_38 : decode y_Tu_planFor.2.1 38 = .ok (.iload_n 3, 1) := by decide +kernel
theorem d_Tu_planFor_39 : decode y_Tu_planFor.2.1 39 = .ok (.ireturn, 1) := by decide +kernel
theorem d_Tu_regretOfTurn_0 : decode y_Tu_regretOfTurn.2.1 0 = .ok (.ldc 92, 2) := by decide +kernel
theorem d_Tu_regretOfTurn_2 : decode y_Tu_regretOfTurn.2.1 2 = .ok (.istore_n 2, 1) := by decide +kernel
theorem d_Tu_regretOfTurn_3 : decode y_Tu_regretOfTurn.2.1 3 = .ok (.iconst 0, 1) := by decide +kernel
theorem d_Tu_regretOfTurn_4 : decode y_Tu_regretOfTurn.2.1 4 = .ok (.istore_n 3, 1) := by decide +kernel
theorem d_Tu_regretOfTurn_5 : decode y_Tu_regretOfTurn.2.1 5 = .ok (.iload_n 3, 1) := by decide +kernel
theorem d_Tu_regretOfTurn_6 : decode y_Tu_regretOfTurn.2.1 6 = .ok (.aload_n 0, 1) := by decide +kernel
theorem d_Tu_regretOfTurn_7 : decode y_Tu_regretOfTurn.2.1 7 = .ok (.getfield 21, 3) := by decide +kernel
theorem d_Tu_regretOfTurn_10 : decode y_Tu_regretOfTurn.2.1 10 = .ok (.getfield 77, 3) := by decide +kernel
theorem d_Tu_regretOfTurn_13 : decode y_Tu_regretOfTurn.2.1 13 = .ok (.invokevirtual 81, 3) := by decide +kernel
theorem d_Tu_regretOfTurn_16 : decode y_Tu_regretOfTurn.2.1 16 = .ok (.if_icmp .ge 29, 3) := by decide +kernel
theorem d_Tu_regretOfTurn_19 : decode y_Tu_regretOfTurn.2.1 19 = .ok (.iload_n 2, 1) := by decide +kernel
theorem d_Tu_regretOfTurn_20 : decode y_Tu_regretOfTurn.2.1 20 = .ok (.aload_n 0, 1) := by decide +kernel
theorem d_Tu_regretOfTurn_21 : decode y_Tu_regretOfTurn.2.1 21 = .ok (.getfield 18, 3) := by decide +kernel
theorem d_Tu_regretOfTurn_24 : decode y_Tu_regretOfTurn.2.1 24 = .ok (.iload_n 3, 1) := by decide +kernel
theorem d_Tu_regretOfTurn_25 : decode y_Tu_regretOfTurn.2.1 25 = .ok (.iconst 4, 1) := by decide +kernel
theorem d_Tu_regretOfTurn_26 : decode y_Tu_regretOfTurn.2.1 26 = .ok (.imul, 1) := by decide +kernel
theorem d_Tu_regretOfTurn_27 : decode y_Tu_regretOfTurn.2.1 27 = .ok (.aload_n 0, 1) := by decide +kernel
theorem d_Tu_regretOfTurn_28 : decode y_Tu_regretOfTurn.2.1 28 = .ok (.iload_n 3, 1) := by decide +kernel
theorem d_Tu_regretOfTurn_29 : decode y_Tu_regretOfTurn.2.1 29 = .ok (.iload_n 1, 1) := by decide +kernel
theorem d_Tu_regretOfTurn_30 : decode y_Tu_regretOfTurn.2.1 30 = .ok (.invokevirtual 93, 3) := by decide +kernel
theorem d_Tu_regretOfTurn_33 : decode y_Tu_regretOfTurn.2.1 33 = .ok (.iadd, 1) := by decide +kernel
theorem d_Tu_regretOfTurn_34 : decode y_Tu_regretOfTurn.2.1 34 = .ok (.iaload, 1) := by decide +kernel
theorem d_Tu_regretOfTurn_35 : decode y_Tu_regretOfTurn.2.1 35 = .ok (.invokestatic 71, 3) := by decide +kernel
theorem d_Tu_regretOfTurn_38 : decode y_Tu_regretOfTurn.2.1 38 = .ok (.istore_n 2, 1) := by decide +kernel
theorem d_Tu_regretOfTurn_39 : decode y_Tu_regretOfTurn.2.1 39 = .ok (.iinc 3 1, 3) := by decide +kernel
theorem d_Tu_regretOfTurn_42 : decode y_Tu_regretOfTurn.2.1 42 = .ok (.goto (-37), 3) := by decide +kernel
theorem d_Tu_regretOfTurn_45 : decode y_Tu_regretOfTurn.2.1 45 = .ok (.iload_n 2, 1) := by decide +kernel
theorem d_Tu_regretOfTurn_46 : decode y_Tu_regretOfTurn.2.1 46 = .ok (.ireturn, 1) := by decide +kernel
theorem d_Tu_fewestDoors_0 : decode y_Tu_fewestDoors.2.1 0 = .ok (.aload_n 0, 1) := by decide +kernel
theorem d_Tu_fewestDoors_1 : decode y_Tu_fewestDoors.2.1 1 = .ok (.getfield 21, 3) := by decide +kernel
theorem d_Tu_fewestDoors_4 : decode y_Tu_fewestDoors.2.1 4 = .ok (.invokevirtual 58, 3) := by decide +kernel
theorem d_Tu_fewestDoors_7 : decode y_Tu_fewestDoors.2.1 7 = .ok (.istore 4, 2) := by decide +kernel
theorem d_Tu_fewestDoors_9 : decode y_Tu_fewestDoors.2.1 9 = .ok (.iconst (-1), 1) := by decide +kernel
theorem d_Tu_fewestDoors_10 : decode y_Tu_fewestDoors.2.1 10 = .ok (.istore 5, 2) := by decide +kernel
theorem d_Tu_fewestDoors_12 : decode y_Tu_fewestDoors.2.1 12 = .ok (.iconst 0, 1) := by decide +kernel
theorem d_Tu_fewestDoors_13 : decode y_Tu_fewestDoors.2.1 13 = .ok (.istore 6, 2) := by decide +kernel
theorem d_Tu_fewestDoors_15 : decode y_Tu_fewestDoors.2.1 15 = .ok (.iload 6, 2) := by decide +kernel
theorem d_Tu_fewestDoors_17 : decode y_Tu_fewestDoors.2.1 17 = .ok (.iconst 1, 1) := by decide +kernel
theorem d_Tu_fewestDoors_18 : decode y_Tu_fewestDoors.2.1 18 = .ok (.aload_n 0, 1) := by decide +kernel
theorem d_Tu_fewestDoors_19 : decode y_Tu_fewestDoors.2.1 19 = .ok (.getfield 21, 3) := by decide +kernel
theorem d_Tu_fewestDoors_22 : decode y_Tu_fewestDoors.2.1 22 = .ok (.getfield 96, 3) := by decide +kernel
theorem d_Tu_fewestDoors_25 : decode y_Tu_fewestDoors.2.1 25 = .ok (.invokevirtual 81, 3) := by decide +kernel
theorem d_Tu_fewestDoors_28 : decode y_Tu_fewestDoors.2.1 28 = .ok (.ishl, 1) := by decide +kernel
theorem d_Tu_fewestDoors_29 : decode y_Tu_fewestDoors.2.1 29 = .ok (.if_icmp .ge 47, 3) := by decide +kernel
theorem d_Tu_fewestDoors_32 : decode y_Tu_fewestDoors.2.1 32 = .ok (.iload 6, 2) := by decide +kernel
theorem d_Tu_fewestDoors_34 : decode y_Tu_fewestDoors.2.1 34 = .ok (.iload 4, 2) := by decide +kernel
theorem d_Tu_fewestDoors_36 : decode y_Tu_fewestDoors.2.1 36 = .ok (.iand, 1) := by decide +kernel
theorem d_Tu_fewestDoors_37 : decode y_Tu_fewestDoors.2.1 37 = .ok (.ifCond .ne 33, 3) := by decide +kernel
theorem d_Tu_fewestDoors_40 : decode y_Tu_fewestDoors.2.1 40 = .ok (.aload_n 0, 1) := by decide +kernel
theorem d_Tu_fewestDoors_41 : decode y_Tu_fewestDoors.2.1 41 = .ok (.iload 6, 2) := by decide +kernel
theorem d_Tu_fewestDoors_43 : decode y_Tu_fewestDoors.2.1 43 = .ok (.iload 5, 2) := by decide +kernel
theorem d_Tu_fewestDoors_45 : decode y_Tu_fewestDoors.2.1 45 = .ok (.invokevirtual 99, 3) := by decide +kernel
theorem d_Tu_fewestDoors_48 : decode y_Tu_fewestDoors.2.1 48 = .ok (.ifCond .eq 22, 3) := by decide +kernel
theorem d_Tu_fewestDoors_51 : decode y_Tu_fewestDoors.2.1 51 = .ok (.aload_n 0, 1) := by decide +kernel
theorem d_Tu_fewestDoors_52 : decode y_Tu_fewestDoors.2.1 52 = .ok (.iload_n 1, 1) := by decide +kernel
theorem d_Tu_fewestDoors_53 : decode y_Tu_fewestDoors.2.1 53 = .ok (.iload_n 2, 1) := by decide +kernel
theorem d_Tu_fewestDoors_54 : decode y_Tu_fewestDoors.2.1 54 = .ok (.iload_n 3, 1) := by decide +kernel
theorem d_Tu_fewestDoors_55 : decode y_Tu_fewestDoors.2.1 55 = .ok (.iload 6, 2) := by decide +kernel
theorem d_Tu_fewestDoors_57 : decode y_Tu_fewestDoors.2.1 57 = .ok (.iload 4, 2) := by decide +kernel
theorem d_Tu_fewestDoors_59 : decode y_Tu_fewestDoors.2.1 59 = .ok (.ior, 1) := by decide +kernel
theorem d_Tu_fewestDoors_60 : decode y_Tu_fewestDoors.2.1 60 = .ok (.invokevirtual 103, 3) := by decide +kernel
theorem d_Tu_fewestDoors_63 : decode y_Tu_fewestDoors.2.1 63 = .ok (.ifCond .eq 7, 3) := by decide +kernel
theorem d_Tu_fewestDoors_66 : decode y_Tu_fewestDoors.2.1 66 = .ok (.iload 6, 2) := by decide +kernel
theorem d_Tu_fewestDoors_68 : decode y_Tu_fewestDoors.2.1 68 = .ok (.istore 5, 2) := by decide +kernel
theorem d_Tu_fewestDoors_70 : decode y_Tu_fewestDoors.2.1 70 = .ok (.iinc 6 1, 3) := by decide +kernel
theorem d_Tu_fewestDoors_73 : decode y_Tu_fewestDoors.2.1 73 = .ok (.goto (-58), 3) := by decide +kernel
theorem d_Tu_fewestDoors_76 : decode y_Tu_fewestDoors.2.1 76 = .ok (.iload 5, 2) := by decide +kernel
theorem d_Tu_fewestDoors_78 : decode y_Tu_fewestDoors.2.1 78 = .ok (.ireturn, 1) := by decide +kernel
theorem d_Tu_greatestRegret_0 : decode y_Tu_greatestRegret.2.1 0 = .ok (.ldc 92, 2) := by decide +kernel
theorem d_Tu_greatestRegret_2 : decode y_Tu_greatestRegret.2.1 2 = .ok (.istore 4, 2) := by decide +kernel
theorem d_Tu_greatestRegret_4 : decode y_Tu_greatestRegret.2.1 4 = .ok (.iconst 0, 1) := by decide +kernel
theorem d_Tu_greatestRegret_5 : decode y_Tu_greatestRegret.2.1 5 = .ok (.istore 5, 2) := by decide +kernel
theorem d_Tu_greatestRegret_7 : decode y_Tu_greatestRegret.2.1 7 = .ok (.iload 5, 2) := by decide +kernel
theorem d_Tu_greatestRegret_9 : decode y_Tu_greatestRegret.2.1 9 = .ok (.aload_n 0, 1) := by decide +kernel
theorem d_Tu_greatestRegret_10 : decode y_Tu_greatestRegret.2.1 10 = .ok (.getfield 21, 3) := by decide +kernel
theorem d_Tu_greatestRegret_13 : decode y_Tu_greatestRegret.2.1 13 = .ok (.getfield 77, 3) := by decide +kernel
theorem d_Tu_greatestRegret_16 : decode y_Tu_greatestRegret.2.1 16 = .ok (.invokevirtual 81, 3) := by decide +kernel
theorem d_Tu_greatestRegret_19 : decode y_Tu_greatestRegret.2.1 19 = .ok (.if_icmp .ge 41, 3) := by decide +kernel
theorem d_Tu_greatestRegret_22 : decode y_Tu_greatestRegret.2.1 22 = .ok (.aload_n 0, 1) := by decide +kernel
theorem d_Tu_greatestRegret_23 : decode y_Tu_greatestRegret.2.1 23 = .ok (.getfield 37, 3) := by decide +kernel
theorem d_Tu_greatestRegret_26 : decode y_Tu_greatestRegret.2.1 26 = .ok (.iload_n 1, 1) := by decide +kernel
theorem d_Tu_greatestRegret_27 : decode y_Tu_greatestRegret.2.1 27 = .ok (.iload 5, 2) := by decide +kernel
theorem d_Tu_greatestRegret_29 : decode y_Tu_greatestRegret.2.1 29 = .ok (.iload_n 3, 1) := by decide +kernel
theorem d_Tu_greatestRegret_30 : decode y_Tu_greatestRegret.2.1 30 = .ok (.invokevirtual 107, 3) := by decide +kernel
theorem d_Tu_greatestRegret_33 : decode y_Tu_greatestRegret.2.1 33 = .ok (.ifCond .eq 21, 3) := by decide +kernel
theorem d_Tu_greatestRegret_36 : decode y_Tu_greatestRegret.2.1 36 = .ok (.iload 4, 2) := by decide +kernel
theorem d_Tu_greatestRegret_38 : decode y_Tu_greatestRegret.2.1 38 = .ok (.aload_n 0, 1) := by decide +kernel
theorem d_Tu_greatestRegret_39 : decode y_Tu_greatestRegret.2.1 39 = .ok (.getfield 18, 3) := by decide +kernel
theorem d_Tu_greatestRegret_42 : decode y_Tu_greatestRegret.2.1 42 = .ok (.iload 5, 2) := by decide +kernel
theorem d_Tu_greatestRegret_44 : decode y_Tu_greatestRegret.2.1 44 = .ok (.iconst 4, 1) := by decide +kernel
theorem d_Tu_greatestRegret_45 : decode y_Tu_greatestRegret.2.1 45 = .ok (.imul, 1) := by decide +kernel
theorem d_Tu_greatestRegret_46 : decode y_Tu_greatestRegret.2.1 46 = .ok (.iload_n 2, 1) := by decide +kernel
theorem d_Tu_greatestRegret_47 : decode y_Tu_greatestRegret.2.1 47 = .ok (.iadd, 1) := by decide +kernel
theorem d_Tu_greatestRegret_48 : decode y_Tu_greatestRegret.2.1 48 = .ok (.iaload, 1) := by decide +kernel
theorem d_Tu_greatestRegret_49 : decode y_Tu_greatestRegret.2.1 49 = .ok (.invokestatic 71, 3) := by decide +kernel
theorem d_Tu_greatestRegret_52 : decode y_Tu_greatestRegret.2.1 52 = .ok (.istore 4, 2) := by decide +kernel
theorem d_Tu_greatestRegret_54 : decode y_Tu_greatestRegret.2.1 54 = .ok (.iinc 5 1, 3) := by decide +kernel
theorem d_Tu_greatestRegret_57 : decode y_Tu_greatestRegret.2.1 57 = .ok (.goto (-50), 3) := by decide +kernel
theorem d_Tu_greatestRegret_60 : decode y_Tu_greatestRegret.2.1 60 = .ok (.iload 4, 2) := by decide +kernel
theorem d_Tu_greatestRegret_62 : decode y_Tu_greatestRegret.2.1 62 = .ok (.ireturn, 1) := by decide +kernel
theorem d_Tu_isBetter_0 : decode y_Tu_isBetter.2.1 0 = .ok (.iload_n 2, 1) := by decide +kernel
theorem d_Tu_isBetter_1 : decode y_Tu_isBetter.2.1 1 = .ok (.iconst (-1), 1) := by decide +kernel
theorem d_Tu_isBetter_2 : decode y_Tu_isBetter.2.1 2 = .ok (.if_icmp .ne 5, 3) := by decide +kernel
theorem d_Tu_isBetter_5 : decode y_Tu_isBetter.2.1 5 = .ok (.iconst 1, 1) := by decide +kernel
theorem d_Tu_isBetter_6 : decode y_Tu_isBetter.2.1 6 = .ok (.ireturn, 1) := by decide +kernel
theorem d_Tu_isBetter_7 : decode y_Tu_isBetter.2.1 7 = .ok (.iload_n 1, 1) := by decide +kernel
theorem d_Tu_isBetter_8 : decode y_Tu_isBetter.2.1 8 = .ok (.invokestatic 113, 3) := by decide +kernel
theorem d_Tu_isBetter_11 : decode y_Tu_isBetter.2.1 11 = .ok (.iload_n 2, 1) := by decide +kernel
theorem d_Tu_isBetter_12 : decode y_Tu_isBetter.2.1 12 = .ok (.invokestatic 113, 3) := by decide +kernel
theorem d_Tu_isBetter_15 : decode y_Tu_isBetter.2.1 15 = .ok (.invokestatic 119, 3) := by decide +kernel
theorem d_Tu_isBetter_18 : decode y_Tu_isBetter.2.1 18 = .ok (.istore_n 3, 1) := by decide +kernel
theorem d_Tu_isBetter_19 : decode y_Tu_isBetter.2.1 19 = .ok (.iload_n 3, 1) := by decide +kernel
theorem d_Tu_isBetter_20 : decode y_Tu_isBetter.2.1 20 = .ok (.ifCond .lt 26, 3) := by decide +kernel
theorem d_Tu_isBetter_23 : decode y_Tu_isBetter.2.1 23 = .ok (.iload_n 3, 1) := by decide +kernel
theorem d_Tu_isBetter_24 : decode y_Tu_isBetter.2.1 24 = .ok (.ifCond .ne 26, 3) := by decide +kernel
theorem d_Tu_isBetter_27 : decode y_Tu_isBetter.2.1 27 = .ok (.aload_n 0, 1) := by decide +kernel
theorem d_Tu_isBetter_28 : decode y_Tu_isBetter.2.1 28 = .ok (.getfield 21, 3) := by decide +kernel
theorem d_Tu_isBetter_31 : decode y_Tu_isBetter.2.1 31 = .ok (.iload_n 1, 1) := by decide +kernel
theorem d_Tu_isBetter_32 : decode y_Tu_isBetter.2.1 32 = .ok (.invokevirtual 122, 3) := by decide +kernel
theorem d_Tu_isBetter_35 : decode y_Tu_isBetter.2.1 35 = .ok (.aload_n 0, 1) := by decide +kernel
theorem d_Tu_isBetter_36 : decode y_Tu_isBetter.2.1 36 = .ok (.getfield 21, 3) := by decide +kernel
theorem d_Tu_isBetter_39 : decode y_Tu_isBetter.2.1 39 = .ok (.iload_n 2, 1) := by decide +kernel
theorem d_Tu_isBetter_40 : decode y_Tu_isBetter.2.1 40 = .ok (.invokevirtual 122, 3) := by decide +kernel
theorem d_Tu_isBetter_43 : decode y_Tu_isBetter.2.1 43 = .ok (.if_icmp .ge 7, 3) := by decide +kernel
theorem d_Tu_isBetter_46 : decode y_Tu_isBetter.2.1 46 = .ok (.iconst 1, 1) := by decide +kernel
theorem d_Tu_isBetter_47 : decode y_Tu_isBetter.2.1 47 = .ok (.goto 4, 3) := by decide +kernel
theorem d_Tu_isBetter_50 : decode y_Tu_isBetter.2.1 50 = .ok (.iconst 0, 1) := by decide +kernel
theorem d_Tu_isBetter_51 : decode y_Tu_isBetter.2.1 51 = .ok (.ireturn, 1) := by decide +kernel
theorem d_Tu_areAllOut_0 : decode y_Tu_areAllOut.2.1 0 = .ok (.aload_n 0, 1) := by decide +kernel
theorem d_Tu_areAllOut_1 : decode y_Tu_areAllOut.2.1 1 = .ok (.getfield 21, 3) := by decide +kernel
theorem d_Tu_areAllOut_4 : decode y_Tu_areAllOut.2.1 4 = .ok (.invokevirtual 125, 3) := by decide +kernel
theorem d_Tu_areAllOut_7 : decode y_Tu_areAllOut.2.1 7 = .ok (.istore 5, 2) := by decide +kernel
theorem d_Tu_areAllOut_9 : decode y_Tu_areAllOut.2.1 9 = .ok (.iconst 0, 1) := by decide +kernel
theorem d_Tu_areAllOut_10 : decode y_Tu_areAllOut.2.1 10 = .ok (.istore 6, 2) := by decide +kernel
theorem d_Tu_areAllOut_12 : decode y_Tu_areAllOut.2.1 12 = .ok (.iload 6, 2) := by decide +kernel
theorem d_Tu_areAllOut_14 : decode y_Tu_areAllOut.2.1 14 = .ok (.iconst 4, 1) := by decide +kernel
theorem d_Tu_areAllOut_15 : decode y_Tu_areAllOut.2.1 15 = .ok (.if_icmp .gt 65, 3) := by decide +kernel
theorem d_Tu_areAllOut_18 : decode y_Tu_areAllOut.2.1 18 = .ok (.iload_n 3, 1) := by decide +kernel
theorem d_Tu_areAllOut_19 : decode y_Tu_areAllOut.2.1 19 = .ok (.iload 6, 2) := by decide +kernel
theorem d_Tu_areAllOut_21 : decode y_Tu_areAllOut.2.1 21 = .ok (.ishr, 1) := by decide +kernel
theorem d_Tu_areAllOut_22 : decode y_Tu_areAllOut.2.1 22 = .ok (.iconst 1, 1) := by decide +kernel
theorem d_Tu_areAllOut_23 : decode y_Tu_areAllOut.2.1 23 = .ok (.iand, 1) := by decide +kernel
theorem d_Tu_areAllOut_24 : decode y_Tu_areAllOut.2.1 24 = .ok (.iconst 1, 1) := by decide +kernel
theorem d_Tu_areAllOut_25 : decode y_Tu_areAllOut.2.1 25 = .ok (.if_icmp .ne 49, 3) := by decide +kernel
theorem d_Tu_areAllOut_28 : decode y_Tu_areAllOut.2.1 28 = .ok (.aload_n 0, 1) := by decide +kernel
theorem d_Tu_areAllOut_29 : decode y_Tu_areAllOut.2.1 29 = .ok (.getfield 29, 3) := by decide +kernel
theorem d_Tu_areAllOut_32 : decode y_Tu_areAllOut.2.1 32 = .ok (.iload_n 1, 1) := by decide +kernel
theorem d_Tu_areAllOut_33 : decode y_Tu_areAllOut.2.1 33 = .ok (.iload_n 1, 1) := by decide +kernel
theorem d_Tu_areAllOut_34 : decode y_Tu_areAllOut.2.1 34 = .ok (.iconst 0, 1) := by decide +kernel
theorem d_Tu_areAllOut_35 : decode y_Tu_areAllOut.2.1 35 = .ok (.iload 6, 2) := by decide +kernel
theorem d_Tu_areAllOut_37 : decode y_Tu_areAllOut.2.1 37 = .ok (.iconst 4, 1) := by decide +kernel
theorem d_Tu_areAllOut_38 : decode y_Tu_areAllOut.2.1 38 = .ok (.if_icmp .ne 7, 3) := by decide +kernel
theorem d_Tu_areAllOut_41 : decode y_Tu_areAllOut.2.1 41 = .ok (.iconst (-1), 1) := by decide +kernel
theorem d_Tu_areAllOut_42 : decode y_Tu_areAllOut.2.1 42 = .ok (.goto 5, 3) := by decide +kernel
theorem d_Tu_areAllOut_45 : decode y_Tu_areAllOut.2.1 45 = .ok (.iload 6, 2) := by decide +kernel
theorem d_Tu_areAllOut_47 : decode y_Tu_areAllOut.2.1 47 = .ok (.invokevirtual 47, 3) := by decide +kernel
theorem d_Tu_areAllOut_50 : decode y_Tu_areAllOut.2.1 50 = .ok (.aload_n 0, 1) := by decide +kernel
theorem d_Tu_areAllOut_51 : decode y_Tu_areAllOut.2.1 51 = .ok (.getfield 33, 3) := by decide +kernel
theorem d_Tu_areAllOut_54 : decode y_Tu_areAllOut.2.1 54 = .ok (.iload_n 2, 1) := by decide +kernel
theorem d_Tu_areAllOut_55 : decode y_Tu_areAllOut.2.1 55 = .ok (.aload_n 0, 1) := by decide +kernel
theorem d_Tu_areAllOut_56 : decode y_Tu_areAllOut.2.1 56 = .ok (.getfield 21, 3) := by decide +kernel
theorem d_Tu_areAllOut_59 : decode y_Tu_areAllOut.2.1 59 = .ok (.invokevirtual 53, 3) := by decide +kernel
theorem d_Tu_areAllOut_62 : decode y_Tu_areAllOut.2.1 62 = .ok (.iload 4, 2) := by decide +kernel
theorem d_Tu_areAllOut_64 : decode y_Tu_areAllOut.2.1 64 = .ok (.invokevirtual 61, 3) := by decide +kernel
theorem d_Tu_areAllOut_67 : decode y_Tu_areAllOut.2.1 67 = .ok (.iload 5, 2) := by decide +kernel
theorem d_Tu_areAllOut_69 : decode y_Tu_areAllOut.2.1 69 = .ok (.if_icmp .ge 5, 3) := by decide +kernel
theorem d_Tu_areAllOut_72 : decode y_Tu_areAllOut.2.1 72 = .ok (.iconst 0, 1) := by decide +kernel
theorem d_Tu_areAllOut_73 : decode y_Tu_areAllOut.2.1 73 = .ok (.ireturn, 1) := by decide +kernel
theorem d_Tu_areAllOut_74 : decode y_Tu_areAllOut.2.1 74 = .ok (.iinc 6 1, 3) := by decide +kernel
theorem d_Tu_areAllOut_77 : decode y_Tu_areAllOut.2.1 77 = .ok (.goto (-65), 3) := by decide +kernel
theorem d_Tu_areAllOut_80 : decode y_Tu_areAllOut.2.1 80 = .ok (.iconst 1, 1) := by decide +kernel
theorem d_Tu_areAllOut_81 : decode y_Tu_areAllOut.2.1 81 = .ok (.ireturn, 1) := by decide +kernel
theorem d_Wa_init_0 : decode y_Wa_init.2.1 0 = .ok (.aload_n 0, 1) := by decide +kernel
theorem d_Wa_init_1 : decode y_Wa_init.2.1 1 = .ok (.invokespecial 3, 3) := by decide +kernel
theorem d_Wa_init_4 : decode y_Wa_init.2.1 4 = .ok (.aload_n 0, 1) := by decide +kernel
theorem d_Wa_init_5 : decode y_Wa_init.2.1 5 = .ok (.bipush 105, 2) := by decide +kernel
theorem d_Wa_init_7 : decode y_Wa_init.2.1 7 = .ok (.newarray .int, 2) := by decide +kernel
theorem d_Wa_init_9 : decode y_Wa_init.2.1 9 = .ok (.putfield 9, 3) := by decide +kernel
theorem d_Wa_init_12 : decode y_Wa_init.2.1 12 = .ok (.aload_n 0, 1) := by decide +kernel
theorem d_Wa_init_13 : decode y_Wa_init.2.1 13 = .ok (.aload_n 1, 1) := by decide +kernel
theorem d_Wa_init_14 : decode y_Wa_init.2.1 14 = .ok (.putfield 15, 3) := by decide +kernel
theorem d_Wa_init_17 : decode y_Wa_init.2.1 17 = .ok (.aload_n 0, 1) := by decide +kernel
theorem d_Wa_init_18 : decode y_Wa_init.2.1 18 = .ok (.aload_n 2, 1) := by decide +kernel
theorem d_Wa_init_19 : decode y_Wa_init.2.1 19 = .ok (.putfield 19, 3) := by decide +kernel
theorem d_Wa_init_22 : decode y_Wa_init.2.1 22 = .ok (.return_, 1) := by decide +kernel
theorem d_Wa_look_0 : decode y_Wa_look.2.1 0 = .ok (.iconst 0, 1) := by decide +kernel
theorem d_Wa_look_1 : decode y_Wa_look.2.1 1 = .ok (.istore_n 2, 1) := by decide +kernel
theorem d_Wa_look_2 : decode y_Wa_look.2.1 2 = .ok (.iload_n 2, 1) := by decide +kernel
theorem d_Wa_look_3 : decode y_Wa_look.2.1 3 = .ok (.aload_n 0, 1) := by decide +kernel
theorem d_Wa_look_4 : decode y_Wa_look.2.1 4 = .ok (.getfield 15, 3) := by decide +kernel
theorem d_Wa_look_7 : decode y_Wa_look.2.1 7 = .ok (.getfield 23, 3) := by decide +kernel
theorem d_Wa_look_10 : decode y_Wa_look.2.1 10 = .ok (.invokevirtual 29, 3) := by decide +kernel
theorem d_Wa_look_13 : decode y_Wa_look.2.1 13 = .ok (.if_icmp .ge 25, 3) := by decide +kernel
theorem d_Wa_look_16 : decode y_Wa_look.2.1 16 = .ok (.aload_n 0, 1) := by decide +kernel
theorem d_Wa_look_17 : decode y_Wa_look.2.1 17 = .ok (.getfield 19, 3) := by decide +kernel
theorem d_Wa_look_20 : decode y_Wa_look.2.1 20 = .ok (.iload_n 1, 1) := by decide +kernel
theorem d_Wa_look_21 : decode y_Wa_look.2.1 21 = .ok (.iload_n 1, 1) := by decide +kernel
theorem d_Wa_look_22 : decode y_Wa_look.2.1 22 = .ok (.iconst 0, 1) := by decide +kernel
theorem d_Wa_look_23 : decode y_Wa_look.2.1 23 = .ok (.iload_n 2, 1) := by decide +kernel
theorem d_Wa_look_24 : decode y_Wa_look.2.1 24 = .ok (.invokevirtual 35, 3) := by decide +kernel
theorem d_Wa_look_27 : decode y_Wa_look.2.1 27 = .ok (.aload_n 0, 1) := by decide +kernel
theorem d_Wa_look_28 : decode y_Wa_look.2.1 28 = .ok (.iload_n 2, 1) := by decide +kernel
theorem d_Wa_look_29 : decode y_Wa_look.2.1 29 = .ok (.invokevirtual 41, 3) := by decide +kernel
theorem d_Wa_look_32 : decode y_Wa_look.2.1 32 = .ok (.iinc 2 1, 3) := by decide +kernel
theorem d_Wa_look_35 : decode y_Wa_look.2.1 35 = .ok (.goto (-33), 3) := by decide +kernel
theorem d_Wa_look_38 : decode y_Wa_look.2.1 38 = .ok (.aload_n 0, 1) := by decide +kernel
theorem d_Wa_look_39 : decode y_Wa_look.2.1 39 = .ok (.getfield 19, 3) := by decide +kernel
theorem d_Wa_look_42 : decode y_Wa_look.2.1 42 = .ok (.iload_n 1, 1) := by decide +kernel
theorem d_Wa_look_43 : decode y_Wa_look.2.1 43 = .ok (.iload_n 1, 1) := by decide +kernel
theorem d_Wa_look_44 : decode y_Wa_look.2.1 44 = .ok (.iconst 0, 1) := by decide +kernel
theorem d_Wa_look_45 : decode y_Wa_look.2.1 45 = .ok (.iconst (-1), 1) := by decide +kernel
theorem d_Wa_look_46 : decode y_Wa_look.2.1 46 = .ok (.invokevirtual 35, 3) := by decide +kernel
theorem d_Wa_look_49 : decode y_Wa_look.2.1 49 = .ok (.aload_n 0, 1) := by decide +kernel
theorem d_Wa_look_50 : decode y_Wa_look.2.1 50 = .ok (.iconst 4, 1) := by decide +kernel
theorem d_Wa_look_51 : decode y_Wa_look.2.1 51 = .ok (.invokevirtual 41, 3) := by decide +kernel
theorem d_Wa_look_54 : decode y_Wa_look.2.1 54 = .ok (.return_, 1) := by decide +kernel
theorem d_Wa_sameTold_0 : decode y_Wa_sameTold.2.1 0 = .ok (.aload_n 0, 1) := by decide +kernel
theorem d_Wa_sameTold_1 : decode y_Wa_sameTold.2.1 1 = .ok (.getfield 15, 3) := by decide +kernel
theorem d_Wa_sameTold_4 : decode y_Wa_sameTold.2.1 4 = .ok (.getfield 45, 3) := by decide +kernel
theorem d_Wa_sameTold_7 : decode y_Wa_sameTold.2.1 7 = .ok (.iconst 0, 1) := by decide +kernel
theorem d_Wa_sameTold_8 : decode y_Wa_sameTold.2.1 8 = .ok (.iconst 2, 1) := by decide +kernel
theorem d_Wa_sameTold_9 : decode y_Wa_sameTold.2.1 9 = .ok (.invokevirtual 48, 3) := by decide +kernel
theorem d_Wa_sameTold_12 : decode y_Wa_sameTold.2.1 12 = .ok (.istore 4, 2) := by decide +kernel
theorem d_Wa_sameTold_14 : decode y_Wa_sameTold.2.1 14 = .ok (.bipush 20, 2) := by decide +kernel
theorem d_Wa_sameTold_16 : decode y_Wa_sameTold.2.1 16 = .ok (.iload_n 3, 1) := by decide +kernel
theorem d_Wa_sameTold_17 : decode y_Wa_sameTold.2.1 17 = .ok (.aload_n 0, 1) := by decide +kernel
theorem d_Wa_sameTold_18 : decode y_Wa_sameTold.2.1 18 = .ok (.getfield 15, 3) := by decide +kernel
theorem d_Wa_sameTold_21 : decode y_Wa_sameTold.2.1 21 = .ok (.getfield 45, 3) := by decide +kernel
theorem d_Wa_sameTold_24 : decode y_Wa_sameTold.2.1 24 = .ok (.iconst 0, 1) := by decide +kernel
theorem d_Wa_sameTold_25 : decode y_Wa_sameTold.2.1 25 = .ok (.iconst 4, 1) := by decide +kernel
theorem d_Wa_sameTold_26 : decode y_Wa_sameTold.2.1 26 = .ok (.invokevirtual 48, 3) := by decide +kernel
theorem d_Wa_sameTold_29 : decode y_Wa_sameTold.2.1 29 = .ok (.isub, 1) := by decide +kernel
theorem d_Wa_sameTold_30 : decode y_Wa_sameTold.2.1 30 = .ok (.invokestatic 52, 3) := by decide +kernel
theorem d_Wa_sameTold_33 : decode y_Wa_sameTold.2.1 33 = .ok (.istore 5, 2) := by decide +kernel
theorem d_Wa_sameTold_35 : decode y_Wa_sameTold.2.1 35 = .ok (.iconst 0, 1) := by decide +kernel
theorem d_Wa_sameTold_36 : decode y_Wa_sameTold.2.1 36 = .ok (.istore 6, 2) := by decide +kernel
theorem d_Wa_sameTold_38 : decode y_Wa_sameTold.2.1 38 = .ok (.iload 6, 2) := by decide +kernel
theorem d_Wa_sameTold_40 : decode y_Wa_sameTold.2.1 40 = .ok (.iload 5, 2) := by decide +kernel
theorem d_Wa_sameTold_42 : decode y_Wa_sameTold.2.1 42 = .ok (.if_icmp .gt 32, 3) := by decide +kernel
theorem d_Wa_sameTold_45 : decode y_Wa_sameTold.2.1 45 = .ok (.aload_n 0, 1) := by decide +kernel
theorem d_Wa_sameTold_46 : decode y_Wa_sameTold.2.1 46 = .ok (.iload_n 1, 1) := by decide +kernel
theorem d_Wa_sameTold_47 : decode y_Wa_sameTold.2.1 47 = .ok (.iload 6, 2) := by decide +kernel
theorem d_Wa_sameTold_49 : decode y_Wa_sameTold.2.1 49 = .ok (.invokevirtual 57, 3) := by decide +kernel
theorem d_Wa_sameTold_52 : decode y_Wa_sameTold.2.1 52 = .ok (.aload_n 0, 1) := by decide +kernel
theorem d_Wa_sameTold_53 : decode y_Wa_sameTold.2.1 53 = .ok (.iload_n 2, 1) := by decide +kernel
theorem d_Wa_sameTold_54 : decode y_Wa_sameTold.2.1 54 = .ok (.iload 6, 2) := by decide +kernel
theorem d_Wa_sameTold_56 : decode y_Wa_sameTold.2.1 56 = .ok (.invokevirtual 57, 3) := by decide +kernel
theorem d_Wa_sameTold_59 : decode y_Wa_sameTold.2.1 59 = .ok (.ixor, 1) := by decide +kernel
theorem d_Wa_sameTold_60 : decode y_Wa_sameTold.2.1 60 = .ok (.iload 4, 2) := by decide +kernel
theorem d_Wa_sameTold_62 : decode y_Wa_sameTold.2.1 62 = .ok (.iand, 1) := by decide +kernel
theorem d_Wa_sameTold_63 : decode y_Wa_sameTold.2.1 63 = .ok (.ifCond .eq 5, 3) := by decide +kernel
theorem d_Wa_sameTold_66 : decode y_Wa_sameTold.2.1 66 = .ok (.iconst 0, 1) := by decide +kernel
theorem d_Wa_sameTold_67 : decode y_Wa_sameTold.2.1 67 = .ok (.ireturn, 1) := by decide +kernel
theorem d_Wa_sameTold_68 : decode y_Wa_sameTold.2.1 68 = .ok (.iinc 6 1, 3) := by decide +kernel
theorem d_Wa_sameTold_71 : decode y_Wa_sameTold.2.1 71 = .ok (.goto (-33), 3) := by decide +kernel
theorem d_Wa_sameTold_74 : decode y_Wa_sameTold.2.1 74 = .ok (.iconst 1, 1) := by decide +kernel
theorem d_Wa_sameTold_75 : decode y_Wa_sameTold.2.1 75 = .ok (.ireturn, 1) := by decide +kernel
theorem d_Wa_fitting_0 : decode y_Wa_fitting.2.1 0 = .ok (.iconst 0, 1) := by decide +kernel
theorem d_Wa_fitting_1 : decode y_Wa_fitting.2.1 1 = .ok (.istore_n 1, 1) := by decide +kernel
theorem d_Wa_fitting_2 : decode y_Wa_fitting.2.1 2 = .ok (.iconst 0, 1) := by decide +kernel
theorem d_Wa_fitting_3 : decode y_Wa_fitting.2.1 3 = .ok (.istore_n 2, 1) := by decide +kernel
theorem d_Wa_fitting_4 : decode y_Wa_fitting.2.1 4 = .ok (.iload_n 2, 1) := by decide +kernel
theorem d_Wa_fitting_5 : decode y_Wa_fitting.2.1 5 = .ok (.aload_n 0, 1) := by decide +kernel
theorem d_Wa_fitting_6 : decode y_Wa_fitting.2.1 6 = .ok (.getfield 15, 3) := by decide +kernel
theorem d_Wa_fitting_9 : decode y_Wa_fitting.2.1 9 = .ok (.getfield 23, 3) := by decide +kernel
theorem d_Wa_fitting_12 : decode y_Wa_fitting.2.1 12 = .ok (.invokevirtual 29, 3) := by decide +kernel
theorem d_Wa_fitting_15 : decode y_Wa_fitting.2.1 15 = .ok (.if_icmp .ge 23, 3) := by decide +kernel
theorem d_Wa_fitting_18 : decode y_Wa_fitting.2.1 18 = .ok (.aload_n 0, 1) := by decide +kernel
theorem d_Wa_fitting_19 : decode y_Wa_fitting.2.1 19 = .ok (.iload_n 2, 1) := by decide +kernel
theorem d_Wa_fitting_20 : decode y_Wa_fitting.2.1 20 = .ok (.invokevirtual 60, 3) := by decide +kernel
theorem d_Wa_fitting_23 : decode y_Wa_fitting.2.1 23 = .ok (.ifCond .eq 9, 3) := by decide +kernel
theorem d_Wa_fitting_26 : decode y_Wa_fitting.2.1 26 = .ok (.iload_n 1, 1) := by decide +kernel
theorem d_Wa_fitting_27 : decode y_Wa_fitting.2.1 27 = .ok (.iconst 1, 1) := by decide +kernel
theorem d_Wa_fitting_28 : decode y_Wa_fitting.2.1 28 = .ok (.iload_n 2, 1) := by decide +kernel
theorem d_Wa_fitting_29 : decode y_Wa_fitting.2.1 29 = .ok (.ishl, 1) := by decide +kernel
theorem d_Wa_fitting_30 : decode y_Wa_fitting.2.1 30 = .ok (.ior, 1) := by decide +kernel
theorem d_Wa_fitting_31 : decode y_Wa_fitting.2.1 31 = .ok (.istore_n 1, 1) := by decide +kernel
theorem d_Wa_fitting_32 : decode y_Wa_fitting.2.1 32 = .ok (.iinc 2 1, 3) := by decide +kernel
theorem d_Wa_fitting_35 : decode y_Wa_fitting.2.1 35 = .ok (.goto (-31), 3) := by decide +kernel
theorem d_Wa_fitting_38 : decode y_Wa_fitting.2.1 38 = .ok (.aload_n 0, 1) := by decide +kernel
theorem d_Wa_fitting_39 : decode y_Wa_fitting.2.1 39 = .ok (.iconst (-1), 1) := by decide +kernel
theorem d_Wa_fitting_40 : decode y_Wa_fitting.2.1 40 = .ok (.invokevirtual 60, 3) := by decide +kernel
theorem d_Wa_fitting_43 : decode y_Wa_fitting.2.1 43 = .ok (.ifCond .eq 10, 3) := by decide +kernel
theorem d_Wa_fitting_46 : decode y_Wa_fitting.2.1 46 = .ok (.iload_n 1, 1) := by decide +kernel
theorem d_Wa_fitting_47 : decode y_Wa_fitting.2.1 47 = .ok (.bipush 16, 2) := by decide +kernel
theorem d_Wa_fitting_49 : decode y_Wa_fitting.2.1 49 = .ok (.ior, 1) := by decide +kernel
theorem d_Wa_fitting_50 : decode y_Wa_fitting.2.1 50 = .ok (.goto 4, 3) := by decide +kernel
theorem d_Wa_fitting_53 : decode y_Wa_fitting.2.1 53 = .ok (.iload_n 1, 1) := by decide +kernel
theorem d_Wa_fitting_54 : decode y_Wa_fitting.2.1 54 = .ok (.ireturn, 1) := by decide +kernel
theorem d_Wa_asked_0 : decode y_Wa_asked.2.1 0 = .ok (.aload_n 0, 1) := by decide +kernel
theorem d_Wa_asked_1 : decode y_Wa_asked.2.1 1 = .ok (.invokevirtual 64, 3) := by decide +kernel
theorem d_Wa_asked_4 : decode y_Wa_asked.2.1 4 = .ok (.istore_n 1, 1) := by decide +kernel
theorem d_Wa_asked_5 : decode y_Wa_asked.2.1 5 = .ok (.iload_n 1, 1) := by decide +kernel
theorem d_Wa_asked_6 : decode y_Wa_asked.2.1 6 = .ok (.invokestatic 67, 3) := by decide +kernel
theorem d_Wa_asked_9 : decode y_Wa_asked.2.1 9 = .ok (.istore_n 2, 1) := by decide +kernel
theorem d_Wa_asked_10 : decode y_Wa_asked.2.1 10 = .ok (.iload_n 2, 1) := by decide +kernel
theorem d_Wa_asked_11 : decode y_Wa_asked.2.1 11 = .ok (.iconst 2, 1) := by decide +kernel
theorem d_Wa_asked_12 : decode y_Wa_asked.2.1 12 = .ok (.if_icmp .ge 5, 3) := by decide +kernel
theorem d_Wa_asked_15 : decode y_Wa_asked.2.1 15 = .ok (.iconst (-1), 1) := by decide +kernel
theorem d_Wa_asked_16 : decode y_Wa_asked.2.1 16 = .ok (.ireturn, 1) := by decide +kernel
theorem d_Wa_asked_17 : decode y_Wa_asked.2.1 17 = .ok (.iconst (-1), 1) := by decide +kernel
theorem d_Wa_asked_18 : decode y_Wa_asked.2.1 18 = .ok (.istore_n 3, 1) := by decide +kernel
theorem d_Wa_asked_19 : decode y_Wa_asked.2.1 19 = .ok (.iload_n 2, 1) := by decide +kernel
theorem d_Wa_asked_20 : decode y_Wa_asked.2.1 20 = .ok (.iconst 1, 1) := by decide +kernel
theorem d_Wa_asked_21 : decode y_Wa_asked.2.1 21 = .ok (.iadd, 1) := by decide +kernel
theorem d_Wa_asked_22 : decode y_Wa_asked.2.1 22 = .ok (.istore 4, 2) := by decide +kernel
theorem d_Wa_asked_24 : decode y_Wa_asked.2.1 24 = .ok (.iconst 0, 1) := by decide +kernel
theorem d_Wa_asked_25 : decode y_Wa_asked.2.1 25 = .ok (.istore 5, 2) := by decide +kernel
theorem d_Wa_asked_27 : decode y_Wa_asked.2.1 27 = .ok (.iload 5, 2) := by decide +kernel
theorem d_Wa_asked_29 : decode y_Wa_asked.2.1 29 = .ok (.bipush 21, 2) := by decide +kernel
theorem d_Wa_asked_31 : decode y_Wa_asked.2.1 31 = .ok (.if_icmp .ge 96, 3) := by decide +kernel
theorem d_Wa_asked_34 : decode y_Wa_asked.2.1 34 = .ok (.iconst 0, 1) := by decide +kernel
theorem d_Wa_asked_35 : decode y_Wa_asked.2.1 35 = .ok (.istore 6, 2) := by decide +kernel
theorem d_Wa_asked_37 : decode y_Wa_asked.2.1 37 = .ok (.iload 6, 2) := by decide +kernel
theorem d_Wa_asked_39 : decode y_Wa_asked.2.1 39 = .ok (.aload_n 0, 1) := by decide +kernel
theorem d_Wa_asked_40 : decode y_Wa_asked.2.1 40 = .ok (.getfield 15, 3) := by decide +kernel
theorem d_Wa_asked_43 : decode y_Wa_asked.2.1 43 = .ok (.getfield 73, 3) := by decide +kernel
theorem d_Wa_asked_46 : decode y_Wa_asked.2.1 46 = .ok (.invokevirtual 29, 3) := by decide +kernel
theorem d_Wa_asked_49 : decode y_Wa_asked.2.1 49 = .ok (.if_icmp .ge 72, 3) := by decide +kernel
theorem d_Wa_asked_52 : decode y_Wa_asked.2.1 52 = .ok (.aload_n 0, 1) := by decide +kernel
theorem d_Wa_asked_53 : decode y_Wa_asked.2.1 53 = .ok (.iload_n 1, 1) := by decide +kernel
theorem d_Wa_asked_54 : decode y_Wa_asked.2.1 54 = .ok (.iload 6, 2) := by decide +kernel
theorem d_Wa_asked_56 : decode y_Wa_asked.2.1 56 = .ok (.iload 5, 2) := by decide +kernel
theorem d_Wa_asked_58 : decode y_Wa_asked.2.1 58 = .ok (.invokevirtual 76, 3) := by decide +kernel
theorem d_Wa_asked_61 : decode y_Wa_asked.2.1 61 = .ok (.istore 7, 2) := by decide +kernel
theorem d_Wa_asked_63 : decode y_Wa_asked.2.1 63 = .ok (.iload 7, 2) := by decide +kernel
theorem d_Wa_asked_65 : decode y_Wa_asked.2.1 65 = .ok (.iload_n 2, 1) := by decide +kernel
theorem d_Wa_asked_66 : decode y_Wa_asked.2.1 66 = .ok (.iload 7, 2) := by decide +kernel
theorem d_Wa_asked_68 : decode y_Wa_asked.2.1 68 = .ok (.isub, 1) := by decide +kernel
theorem d_Wa_asked_69 : decode y_Wa_asked.2.1 69 = .ok (.invokestatic 80, 3) := by decide +kernel
theorem d_Wa_asked_72 : decode y_Wa_asked.2.1 72 = .ok (.istore 8, 2) := by decide +kernel
theorem d_Wa_asked_74 : decode y_Wa_asked.2.1 74 = .ok (.aload_n 0, 1) := by decide +kernel
theorem d_Wa_asked_75 : decode y_Wa_asked.2.1 75 = .ok (.getfield 15, 3) := by decide +kernel
theorem d_Wa_asked_78 : decode y_Wa_asked.2.1 78 = .ok (.getfield 45, 3) := by decide +kernel
theorem d_Wa_asked_81 : decode y_Wa_asked.2.1 81 = .ok (.iconst 0, 1) := by decide +kernel
theorem d_Wa_asked_82 : decode y_Wa_asked.2.1 82 = .ok (.iconst 2, 1) := by decide +kernel
theorem d_Wa_asked_83 : decode y_Wa_asked.2.1 83 = .ok (.invokevirtual 48, 3) := by decide +kernel
theorem d_Wa_asked_86 : decode y_Wa_asked.2.1 86 = .ok (.iload 6, 2) := by decide +kernel
theorem d_Wa_asked_88 : decode y_Wa_asked.2.1 88 = .ok (.ishr, 1) := by decide +kernel
theorem d_Wa_asked_89 : decode y_Wa_asked.2.1 89 = .ok (.iconst 1, 1) := by decide +kernel
theorem d_Wa_asked_90 : decode y_Wa_asked.2.1 90 = .ok (.iand, 1) := by decide +kernel
theorem d_Wa_asked_91 : decode y_Wa_asked.2.1 91 = .ok (.iconst 1, 1) := by decide +kernel
theorem d_Wa_asked_92 : decode y_Wa_asked.2.1 92 = .ok (.if_icmp .ne 23, 3) := by decide +kernel
theorem d_Wa_asked_95 : decode y_Wa_asked.2.1 95 = .ok (.iload 8, 2) := by decide +kernel
theorem d_Wa_asked_97 : decode y_Wa_asked.2.1 97 = .ok (.iload 4, 2) := by decide +kernel
theorem d_Wa_asked_99 : decode y_Wa_asked.2.1 99 = .ok (.if_icmp .ge 16, 3) := by decide +kernel
theorem d_Wa_asked_102 : decode y_Wa_asked.2.1 102 = .ok (.iload 8, 2) := by decide +kernel
theorem d_Wa_asked_104 : decode y_Wa_asked.2.1 104 = .ok (.istore 4, 2) := by decide +kernel
theorem d_Wa_asked_106 : decode y_Wa_asked.2.1 106 = .ok (.bipush 8, 2) := by decide +kernel
theorem d_Wa_asked_108 : decode y_Wa_asked.2.1 108 = .ok (.iload 5, 2) := by decide +kernel
theorem d_Wa_asked_110 : decode y_Wa_asked.2.1 110 = .ok (.imul, 1) := by decide +kernel
theorem d_Wa_asked_111 : decode y_Wa_asked.2.1 111 = .ok (.iload 6, 2) := by decide +kernel
theorem d_Wa_asked_113 : decode y_Wa_asked.2.1 113 = .ok (.iadd, 1) := by decide +kernel
theorem d_Wa_asked_114 : decode y_Wa_asked.2.1 114 = .ok (.istore_n 3, 1) := by decide +kernel
theorem d_Wa_asked_115 : decode y_Wa_asked.2.1 115 = .ok (.iinc 6 1, 3) := by decide +kernel
theorem d_Wa_asked_118 : decode y_Wa_asked.2.1 118 = .ok (.goto (-81), 3) := by decide +kernel
theorem d_Wa_asked_121 : decode y_Wa_asked.2.1 121 = .ok (.iinc 5 1, 3) := by decide +kernel
theorem d_Wa_asked_124 : decode y_Wa_asked.2.1 124 = .ok (.goto (-97), 3) := by decide +kernel
theorem d_Wa_asked_127 : decode y_Wa_asked.2.1 127 = .ok (.iload_n 3, 1) := by decide +kernel
theorem d_Wa_asked_128 : decode y_Wa_asked.2.1 128 = .ok (.ireturn, 1) := by decide +kernel
theorem d_Wa_keep_0 : decode y_Wa_keep.2.1 0 = .ok (.iconst 0, 1) := by decide +kernel
theorem d_Wa_keep_1 : decode y_Wa_keep.2.1 1 = .ok (.istore_n 2, 1) := by decide +kernel
theorem d_Wa_keep_2 : decode y_Wa_keep.2.1 2 = .ok (.iload_n 2, 1) := by decide +kernel
theorem d_Wa_keep_3 : decode y_Wa_keep.2.1 3 = .ok (.bipush 21, 2) := by decide +kernel
theorem d_Wa_keep_5 : decode y_Wa_keep.2.1 5 = .ok (.if_icmp .ge 67, 3) := by decide +kernel
theorem d_Wa_keep_8 : decode y_Wa_keep.2.1 8 = .ok (.iconst 0, 1) := by decide +kernel
theorem d_Wa_keep_9 : decode y_Wa_keep.2.1 9 = .ok (.istore_n 3, 1) := by decide +kernel
theorem d_Wa_keep_10 : decode y_Wa_keep.2.1 10 = .ok (.iconst 0, 1) := by decide +kernel
theorem d_Wa_keep_11 : decode y_Wa_keep.2.1 11 = .ok (.istore 4, 2) := by decide +kernel
theorem d_Wa_keep_13 : decode y_Wa_keep.2.1 13 = .ok (.iload 4, 2) := by decide +kernel
theorem d_Wa_keep_15 : decode y_Wa_keep.2.1 15 = .ok (.aload_n 0, 1) := by decide +kernel
theorem d_Wa_keep_16 : decode y_Wa_keep.2.1 16 = .ok (.getfield 15, 3) := by decide +kernel
theorem d_Wa_keep_19 : decode y_Wa_keep.2.1 19 = .ok (.getfield 73, 3) := by decide +kernel
theorem d_Wa_keep_22 : decode y_Wa_keep.2.1 22 = .ok (.invokevirtual 29, 3) := by decide +kernel
theorem d_Wa_keep_25 : decode y_Wa_keep.2.1 25 = .ok (.if_icmp .ge 29, 3) := by decide +kernel
theorem d_Wa_keep_28 : decode y_Wa_keep.2.1 28 = .ok (.aload_n 0, 1) := by decide +kernel
theorem d_Wa_keep_29 : decode y_Wa_keep.2.1 29 = .ok (.getfield 19, 3) := by decide +kernel
theorem d_Wa_keep_32 : decode y_Wa_keep.2.1 32 = .ok (.iload 4, 2) := by decide +kernel
theorem d_Wa_keep_34 : decode y_Wa_keep.2.1 34 = .ok (.iload_n 2, 1) := by decide +kernel
theorem d_Wa_keep_35 : decode y_Wa_keep.2.1 35 = .ok (.invokevirtual 83, 3) := by decide +kernel
theorem d_Wa_keep_38 : decode y_Wa_keep.2.1 38 = .ok (.ifCond .eq 10, 3) := by decide +kernel
theorem d_Wa_keep_41 : decode y_Wa_keep.2.1 41 = .ok (.iload_n 3, 1) := by decide +kernel
theorem d_Wa_keep_42 : decode y_Wa_keep.2.1 42 = .ok (.iconst 1, 1) := by decide +kernel
theorem d_Wa_keep_43 : decode y_Wa_keep.2.1 43 = .ok (.iload 4, 2) := by decide +kernel
theorem d_Wa_keep_45 : decode y_Wa_keep.2.1 45 = .ok (.ishl, 1) := by decide +kernel
theorem d_Wa_keep_46 : decode y_Wa_keep.2.1 46 = .ok (.ior, 1) := by decide +kernel
theorem d_Wa_keep_47 : decode y_Wa_keep.2.1 47 = .ok (.istore_n 3, 1) := by decide +kernel
theorem d_Wa_keep_48 : decode y_Wa_keep.2.1 48 = .ok (.iinc 4 1, 3) := by decide +kernel
theorem d_Wa_keep_51 : decode y_Wa_keep.2.1 51 = .ok (.goto (-38), 3) := by decide +kernel
theorem d_Wa_keep_54 : decode y_Wa_keep.2.1 54 = .ok (.aload_n 0, 1) := by decide +kernel
theorem d_Wa_keep_55 : decode y_Wa_keep.2.1 55 = .ok (.getfield 9, 3) := by decide +kernel
theorem d_Wa_keep_58 : decode y_Wa_keep.2.1 58 = .ok (.iload_n 1, 1) := by decide +kernel
theorem d_Wa_keep_59 : decode y_Wa_keep.2.1 59 = .ok (.bipush 21, 2) := by decide +kernel
theorem d_Wa_keep_61 : decode y_Wa_keep.2.1 61 = .ok (.imul, 1) := by decide +kernel
theorem d_Wa_keep_62 : decode y_Wa_keep.2.1 62 = .ok (.iload_n 2, 1) := by decide +kernel
theorem d_Wa_keep_63 : decode y_Wa_keep.2.1 63 = .ok (.iadd, 1) := by decide +kernel
theorem d_Wa_keep_64 : decode y_Wa_keep.2.1 64 = .ok (.iload_n 3, 1) := by decide +kernel
theorem d_Wa_keep_65 : decode y_Wa_keep.2.1 65 = .ok (.iastore, 1) := by decide +kernel
theorem d_Wa_keep_66 : decode y_Wa_keep.2.1 66 = .ok (.iinc 2 1, 3) := by decide +kernel
theorem d_Wa_keep_69 : decode y_Wa_keep.2.1 69 = .ok (.goto (-67), 3) := by decide +kernel
theorem d_Wa_keep_72 : decode y_Wa_keep.2.1 72 = .ok (.return_, 1) := by decide +kernel
theorem d_Wa_markedAt_0 : decode y_Wa_markedAt.2.1 0 = .ok (.iload_n 1, 1) := by decide +kernel
theorem d_Wa_markedAt_1 : decode y_Wa_markedAt.2.1 1 = .ok (.iconst (-1), 1) := by decide +kernel
theorem d_Wa_markedAt_2 : decode y_Wa_markedAt.2.1 2 = .ok (.if_icmp .ne 7, 3) := by decide +kernel
theorem d_Wa_markedAt_5 : decode y_Wa_markedAt.2.1 5 = .ok (.iconst 4, 1) := by decide +kernel
theorem d_Wa_markedAt_6 : decode y_Wa_markedAt.2.1 6 = .ok (.goto 4, 3) := by decide +kernel
theorem d_Wa_markedAt_9 : decode y_Wa_markedAt.2.1 9 = .ok (.iload_n 1, 1) := by decide +kernel
theorem d_Wa_markedAt_10 : decode y_Wa_markedAt.2.1 10 = .ok (.istore_n 3, 1) := by decide +kernel
theorem d_Wa_markedAt_11 : decode y_Wa_markedAt.2.1 11 = .ok (.iload_n 3, 1) := by decide +kernel
theorem d_Wa_markedAt_12 : decode y_Wa_markedAt.2.1 12 = .ok (.ifCond .lt 22, 3) := by decide +kernel
theorem d_Wa_markedAt_15 : decode y_Wa_markedAt.2.1 15 = .ok (.iload_n 3, 1) := by decide +kernel
theorem d_Wa_markedAt_16 : decode y_Wa_markedAt.2.1 16 = .ok (.iconst 4, 1) := by decide +kernel
theorem d_Wa_markedAt_17 : decode y_Wa_markedAt.2.1 17 = .ok (.if_icmp .gt 17, 3) := by decide +kernel
theorem d_Wa_markedAt_20 : decode y_Wa_markedAt.2.1 20 = .ok (.iload_n 2, 1) := by decide +kernel
theorem d_Wa_markedAt_21 : decode y_Wa_markedAt.2.1 21 = .ok (.ifCond .lt 13, 3) := by decide +kernel
theorem d_Wa_markedAt_24 : decode y_Wa_markedAt.2.1 24 = .ok (.iload_n 2, 1) := by decide +kernel
theorem d_Wa_markedAt_25 : decode y_Wa_markedAt.2.1 25 = .ok (.bipush 21, 2) := by decide +kernel
theorem d_Wa_markedAt_27 : decode y_Wa_markedAt.2.1 27 = .ok (.if_icmp .ge 7, 3) := by decide +kernel
theorem d_Wa_markedAt_30 : decode y_Wa_markedAt.2.1 30 = .ok (.iconst 1, 1) := by decide +kernel
theorem d_Wa_markedAt_31 : decode y_Wa_markedAt.2.1 31 = .ok (.goto 4, 3) := by decide +kernel
theorem d_Wa_markedAt_34 : decode y_Wa_markedAt.2.1 34 = .ok (.iconst 0, 1) := by decide +kernel
theorem d_Wa_markedAt_35 : decode y_Wa_markedAt.2.1 35 = .ok (.istore 4, 2) := by decide +kernel
theorem d_Wa_markedAt_37 : decode y_Wa_markedAt.2.1 37 = .ok (.iload 4, 2) := by decide +kernel
theorem d_Wa_markedAt_39 : decode y_Wa_markedAt.2.1 39 = .ok (.ifCond .eq 17, 3) := by decide +kernel
theorem d_Wa_markedAt_42 : decode y_Wa_markedAt.2.1 42 = .ok (.aload_n 0, 1) := by decide +kernel
theorem d_Wa_markedAt_43 : decode y_Wa_markedAt.2.1 43 = .ok (.getfield 9, 3) := by decide +kernel
theorem d_Wa_markedAt_46 : decode y_Wa_markedAt.2.1 46 = .ok (.iload_n 3, 1) := by decide +kernel
theorem d_Wa_markedAt_47 : decode y_Wa_markedAt.2.1 47 = .ok (.bipush 21, 2) := by decide +kernel
theorem d_Wa_markedAt_49 : decode y_Wa_markedAt.2.1 49 = .ok (.imul, 1) := by decide +kernel
theorem d_Wa_markedAt_50 : decode y_Wa_markedAt.2.1 50 = .ok (.iload_n 2, 1) := by decide +kernel
theorem d_Wa_markedAt_51 : decode y_Wa_markedAt.2.1 51 = .ok (.iadd, 1) := by decide +kernel
theorem d_Wa_markedAt_52 : decode y_Wa_markedAt.2.1 52 = .ok (.iaload, 1) := by decide +kernel
theorem d_Wa_markedAt_53 : decode y_Wa_markedAt.2.1 53 = .ok (.goto 4, 3) := by decide +kernel
theorem d_Wa_markedAt_56 : decode y_Wa_markedAt.2.1 56 = .ok (.iconst 0, 1) := by decide +kernel
theorem d_Wa_markedAt_57 : decode y_Wa_markedAt.2.1 57 = .ok (.ireturn, 1) := by decide +kernel
theorem d_Wa_fitsAll_0 : decode y_Wa_fitsAll.2.1 0 = .ok (.iconst 0, 1) := by decide +kernel
theorem d_Wa_fitsAll_1 : decode y_Wa_fitsAll.2.1 1 = .ok (.istore_n 2, 1) := by decide +kernel
theorem d_Wa_fitsAll_2 : decode y_Wa_fitsAll.2.1 2 = .ok (.iload_n 2, 1) := by decide +kernel
theorem d_Wa_fitsAll_3 : decode y_Wa_fitsAll.2.1 3 = .ok (.aload_n 0, 1) := by decide +kernel
theorem d_Wa_fitsAll_4 : decode y_Wa_fitsAll.2.1 4 = .ok (.getfield 15, 3) := by decide +kernel
theorem d_Wa_fitsAll_7 : decode y_Wa_fitsAll.2.1 7 = .ok (.getfield 87, 3) := by decide +kernel
theorem d_Wa_fitsAll_10 : decode y_Wa_fitsAll.2.1 10 = .ok (.invokevirtual 29, 3) := by decide +kernel
theorem d_Wa_fitsAll_13 : decode y_Wa_fitsAll.2.1 13 = .ok (.if_icmp .ge 64, 3) := by decide +kernel
theorem d_Wa_fitsAll_16 : decode y_Wa_fitsAll.2.1 16 = .ok (.aload_n 0, 1) := by decide +kernel
theorem d_Wa_fitsAll_17 : decode y_Wa_fitsAll.2.1 17 = .ok (.getfield 15, 3) := by decide +kernel
theorem d_Wa_fitsAll_20 : decode y_Wa_fitsAll.2.1 20 = .ok (.getfield 87, 3) := by decide +kernel
theorem d_Wa_fitsAll_23 : decode y_Wa_fitsAll.2.1 23 = .ok (.iload_n 2, 1) := by decide +kernel
theorem d_Wa_fitsAll_24 : decode y_Wa_fitsAll.2.1 24 = .ok (.iconst 0, 1) := by decide +kernel
theorem d_Wa_fitsAll_25 : decode y_Wa_fitsAll.2.1 25 = .ok (.invokevirtual 48, 3) := by decide +kernel
theorem d_Wa_fitsAll_28 : decode y_Wa_fitsAll.2.1 28 = .ok (.istore_n 3, 1) := by decide +kernel
theorem d_Wa_fitsAll_29 : decode y_Wa_fitsAll.2.1 29 = .ok (.aload_n 0, 1) := by decide +kernel
theorem d_Wa_fitsAll_30 : decode y_Wa_fitsAll.2.1 30 = .ok (.getfield 15, 3) := by decide +kernel
theorem d_Wa_fitsAll_33 : decode y_Wa_fitsAll.2.1 33 = .ok (.getfield 87, 3) := by decide +kernel
theorem d_Wa_fitsAll_36 : decode y_Wa_fitsAll.2.1 36 = .ok (.iload_n 2, 1) := by decide +kernel
theorem d_Wa_fitsAll_37 : decode y_Wa_fitsAll.2.1 37 = .ok (.iconst 1, 1) := by decide +kernel
theorem d_Wa_fitsAll_38 : decode y_Wa_fitsAll.2.1 38 = .ok (.invokevirtual 48, 3) := by decide +kernel
theorem d_Wa_fitsAll_41 : decode y_Wa_fitsAll.2.1 41 = .ok (.istore 4, 2) := by decide +kernel
theorem d_Wa_fitsAll_43 : decode y_Wa_fitsAll.2.1 43 = .ok (.aload_n 0, 1) := by decide +kernel
theorem d_Wa_fitsAll_44 : decode y_Wa_fitsAll.2.1 44 = .ok (.iload_n 1, 1) := by decide +kernel
theorem d_Wa_fitsAll_45 : decode y_Wa_fitsAll.2.1 45 = .ok (.iload 4, 2) := by decide +kernel
theorem d_Wa_fitsAll_47 : decode y_Wa_fitsAll.2.1 47 = .ok (.invokevirtual 57, 3) := by decide +kernel
theorem d_Wa_fitsAll_50 : decode y_Wa_fitsAll.2.1 50 = .ok (.iload_n 3, 1) := by decide +kernel
theorem d_Wa_fitsAll_51 : decode y_Wa_fitsAll.2.1 51 = .ok (.ishr, 1) := by decide +kernel
theorem d_Wa_fitsAll_52 : decode y_Wa_fitsAll.2.1 52 = .ok (.iconst 1, 1) := by decide +kernel
theorem d_Wa_fitsAll_53 : decode y_Wa_fitsAll.2.1 53 = .ok (.iand, 1) := by decide +kernel
theorem d_Wa_fitsAll_54 : decode y_Wa_fitsAll.2.1 54 = .ok (.aload_n 0, 1) := by decide +kernel
theorem d_Wa_fitsAll_55 : decode y_Wa_fitsAll.2.1 55 = .ok (.getfield 15, 3) := by decide +kernel
theorem d_Wa_fitsAll_58 : decode y_Wa_fitsAll.2.1 58 = .ok (.getfield 87, 3) := by decide +kernel
theorem d_Wa_fitsAll_61 : decode y_Wa_fitsAll.2.1 61 = .ok (.iload_n 2, 1) := by decide +kernel
theorem d_Wa_fitsAll_62 : decode y_Wa_fitsAll.2.1 62 = .ok (.iconst 2, 1) := by decide +kernel
theorem d_Wa_fitsAll_63 : decode y_Wa_fitsAll.2.1 63 = .ok (.invokevirtual 48, 3) := by decide +kernel
theorem d_Wa_fitsAll_66 : decode y_Wa_fitsAll.2.1 66 = .ok (.if_icmp .eq 5, 3) := by decide +kernel
theorem d_Wa_fitsAll_69 : decode y_Wa_fitsAll.2.1 69 = .ok (.iconst 0, 1) := by decide +kernel
theorem d_Wa_fitsAll_70 : decode y_Wa_fitsAll.2.1 70 = .ok (.ireturn, 1) := by decide +kernel
theorem d_Wa_fitsAll_71 : decode y_Wa_fitsAll.2.1 71 = .ok (.iinc 2 1, 3) := by decide +kernel
theorem d_Wa_fitsAll_74 : decode y_Wa_fitsAll.2.1 74 = .ok (.goto (-72), 3) := by decide +kernel
theorem d_Wa_fitsAll_77 : decode y_Wa_fitsAll.2.1 77 = .ok (.iconst 1, 1) := by decide +kernel
theorem d_Wa_fitsAll_78 : decode y_Wa_fitsAll.2.1 78 = .ok (.ireturn, 1) := by decide +kernel
theorem d_Wa_countMarked_0 : decode y_Wa_countMarked.2.1 0 = .ok (.iconst 0, 1) := by decide +kernel
theorem d_Wa_countMarked_1 : decode y_Wa_countMarked.2.1 1 = .ok (.istore 4, 2) := by decide +kernel
theorem d_Wa_countMarked_3 : decode y_Wa_countMarked.2.1 3 = .ok (.iconst 0, 1) := by decide +kernel
theorem d_Wa_countMarked_4 : decode y_Wa_countMarked.2.1 4 = .ok (.istore 5, 2) := by decide +kernel
theorem d_Wa_countMarked_6 : decode y_Wa_countMarked.2.1 6 = .ok (.iload 5, 2) := by decide +kernel
theorem d_Wa_countMarked_8 : decode y_Wa_countMarked.2.1 8 = .ok (.iconst 4, 1) := by decide +kernel
theorem d_Wa_countMarked_9 : decode y_Wa_countMarked.2.1 9 = .ok (.if_icmp .gt 40, 3) := by decide +kernel
theorem d_Wa_countMarked_12 : decode y_Wa_countMarked.2.1 12 = .ok (.iload_n 1, 1) := by decide +kernel
theorem d_Wa_countMarked_13 : decode y_Wa_countMarked.2.1 13 = .ok (.iload 5, 2) := by decide +kernel
theorem d_Wa_countMarked_15 : decode y_Wa_countMarked.2.1 15 = .ok (.ishr, 1) := by decide +kernel
theorem d_Wa_countMarked_16 : decode y_Wa_countMarked.2.1 16 = .ok (.iconst 1, 1) := by decide +kernel
theorem d_Wa_countMarked_17 : decode y_Wa_countMarked.2.1 17 = .ok (.iand, 1) := by decide +kernel
theorem d_Wa_countMarked_18 : decode y_Wa_countMarked.2.1 18 = .ok (.iconst 1, 1) := by decide +kernel
theorem d_Wa_countMarked_19 : decode y_Wa_countMarked.2.1 19 = .ok (.if_icmp .ne 24, 3) := by decide +kernel
theorem d_Wa_countMarked_22 : decode y_Wa_countMarked.2.1 22 = .ok (.iload 4, 2) := by decide +kernel
theorem d_Wa_countMarked_24 : decode y_Wa_countMarked.2.1 24 = .ok (.aload_n 0, 1) := by decide +kernel
theorem d_Wa_countMarked_25 : decode y_Wa_countMarked.2.1 25 = .ok (.getfield 9, 3) := by decide +kernel
theorem d_Wa_countMarked_28 : decode y_Wa_countMarked.2.1 28 = .ok (.iload 5, 2) := by decide +kernel
theorem d_Wa_countMarked_30 : decode y_Wa_countMarked.2.1 30 = .ok (.bipush 21, 2) := by decide +kernel
theorem d_Wa_countMarked_32 : decode y_Wa_countMarked.2.1 32 = .ok (.imul, 1) := by decide +kernel
theorem d_Wa_countMarked_33 : decode y_Wa_countMarked.2.1 33 = .ok (.iload_n 3, 1) := by decide +kernel
theorem d_Wa_countMarked_34 : decode y_Wa_countMarked.2.1 34 = .ok (.iadd, 1) := by decide +kernel
theorem d_Wa_countMarked_35 : decode y_Wa_countMarked.2.1 35 = .ok (.iaload, 1) := by decide +kernel
theorem d_Wa_countMarked_36 : decode y_Wa_countMarked.2.1 36 = .ok (.iload_n 2, 1) := by decide +kernel
theorem d_Wa_countMarked_37 : decode y_Wa_countMarked.2.1 37 = .ok (.ishr, 1) := by decide +kernel
theorem d_Wa_countMarked_38 : decode y_Wa_countMarked.2.1 38 = .ok (.iconst 1, 1) := by decide +kernel
theorem d_Wa_countMarked_39 : decode y_Wa_countMarked.2.1 39 = .ok (.iand, 1) := by decide +kernel
theorem d_Wa_countMarked_40 : decode y_Wa_countMarked.2.1 40 = .ok (.iadd, 1) := by decide +kernel
theorem d_Wa_countMarked_41 : decode y_Wa_countMarked.2.1 41 = .ok (.istore 4, 2) := by decide +kernel
theorem d_Wa_countMarked_43 : decode y_Wa_countMarked.2.1 43 = .ok (.iinc 5 1, 3) := by decide +kernel
theorem d_Wa_countMarked_46 : decode y_Wa_countMarked.2.1 46 = .ok (.goto (-40), 3) := by decide +kernel
theorem d_Wa_countMarked_49 : decode y_Wa_countMarked.2.1 49 = .ok (.iload 4, 2) := by decide +kernel
theorem d_Wa_countMarked_51 : decode y_Wa_countMarked.2.1 51 = .ok (.ireturn, 1) := by decide +kernel
theorem d_F_init_0 : decode y_F_init.2.1 0 = .ok (.aload_n 0, 1) := by decide +kernel
theorem d_F_init_1 : decode y_F_init.2.1 1 = .ok (.invokespecial 3, 3) := by decide +kernel
theorem d_F_init_4 : decode y_F_init.2.1 4 = .ok (.aload_n 0, 1) := by decide +kernel
theorem d_F_init_5 : decode y_F_init.2.1 5 = .ok (.new 9, 3) := by decide +kernel
theorem d_F_init_8 : decode y_F_init.2.1 8 = .ok (.dup, 1) := by decide +kernel
theorem d_F_init_9 : decode y_F_init.2.1 9 = .ok (.invokespecial 11, 3) := by decide +kernel
theorem d_F_init_12 : decode y_F_init.2.1 12 = .ok (.putfield 12, 3) := by decide +kernel
theorem d_F_init_15 : decode y_F_init.2.1 15 = .ok (.aload_n 0, 1) := by decide +kernel
theorem d_F_init_16 : decode y_F_init.2.1 16 = .ok (.new 16, 3) := by decide +kernel
theorem d_F_init_19 : decode y_F_init.2.1 19 = .ok (.dup, 1) := by decide +kernel
theorem d_F_init_20 : decode y_F_init.2.1 20 = .ok (.aload_n 0, 1) := by decide +kernel
theorem d_F_init_21 : decode y_F_init.2.1 21 = .ok (.getfield 12, 3) := by decide +kernel
theorem d_F_init_24 : decode y_F_init.2.1 24 = .ok (.invokespecial 18, 3) := by decide +kernel
theorem d_F_init_27 : decode y_F_init.2.1 27 = .ok (.putfield 21, 3) := by decide +kernel
theorem d_F_init_30 : decode y_F_init.2.1 30 = .ok (.aload_n 0, 1) := by decide +kernel
theorem d_F_init_31 : decode y_F_init.2.1 31 = .ok (.new 25, 3) := by decide +kernel
theorem d_F_init_34 : decode y_F_init.2.1 34 = .ok (.dup, 1) := by decide +kernel
theorem d_F_init_35 : decode y_F_init.2.1 35 = .ok (.aload_n 0, 1) := by decide +kernel
theorem d_F_init_36 : decode y_F_init.2.1 36 = .ok (.getfield 21, 3) := by decide +kernel
theorem d_F_init_39 : decode y_F_init.2.1 39 = .ok (.aload_n 0, 1) := by decide +kernel
theorem d_F_init_40 : decode y_F_init.2.1 40 = .ok (.getfield 12, 3) := by decide +kernel
theorem d_F_init_43 : decode y_F_init.2.1 43 = .ok (.invokespecial 27, 3) := by decide +kernel
theorem d_F_init_46 : decode y_F_init.2.1 46 = .ok (.putfield 30, 3) := by decide +kernel
theorem d_F_init_49 : decode y_F_init.2.1 49 = .ok (.aload_n 0, 1) := by decide +kernel
theorem d_F_init_50 : decode y_F_init.2.1 50 = .ok (.new 34, 3) := by decide +kernel
theorem d_F_init_53 : decode y_F_init.2.1 53 = .ok (.dup, 1) := by decide +kernel
theorem d_F_init_54 : decode y_F_init.2.1 54 = .ok (.aload_n 0, 1) := by decide +kernel
theorem d_F_init_55 : decode y_F_init.2.1 55 = .ok (.getfield 21, 3) := by decide +kernel
theorem d_F_init_58 : decode y_F_init.2.1 58 = .ok (.aload_n 0, 1) := by decide +kernel
theorem d_F_init_59 : decode y_F_init.2.1 59 = .ok (.getfield 30, 3) := by decide +kernel
theorem d_F_init_62 : decode y_F_init.2.1 62 = .ok (.invokespecial 36, 3) := by decide +kernel
theorem d_F_init_65 : decode y_F_init.2.1 65 = .ok (.putfield 39, 3) := by decide +kernel
theorem d_F_init_68 : decode y_F_init.2.1 68 = .ok (.aload_n 0, 1) := by decide +kernel
theorem d_F_init_69 : decode y_F_init.2.1 69 = .ok (.new 43, 3) := by decide +kernel
theorem d_F_init_72 : decode y_F_init.2.1 72 = .ok (.dup, 1) := by decide +kernel
theorem d_F_init_73 : decode y_F_init.2.1 73 = .ok (.aload_n 0, 1) := by decide +kernel
theorem d_F_init_74 : decode y_F_init.2.1 74 = .ok (.getfield 21, 3) := by decide +kernel
theorem d_F_init_77 : decode y_F_init.2.1 77 = .ok (.aload_n 0, 1) := by decide +kernel
theorem d_F_init_78 : decode y_F_init.2.1 78 = .ok (.getfield 30, 3) := by decide +kernel
theorem d_F_init_81 : decode y_F_init.2.1 81 = .ok (.invokespecial 45, 3) := by decide +kernel
theorem d_F_init_84 : decode y_F_init.2.1 84 = .ok (.putfield 46, 3) := by decide +kernel
theorem d_F_init_87 : decode y_F_init.2.1 87 = .ok (.aload_n 0, 1) := by decide +kernel
theorem d_F_init_88 : decode y_F_init.2.1 88 = .ok (.new 50, 3) := by decide +kernel
theorem d_F_init_91 : decode y_F_init.2.1 91 = .ok (.dup, 1) := by decide +kernel
theorem d_F_init_92 : decode y_F_init.2.1 92 = .ok (.aload_n 0, 1) := by decide +kernel
theorem d_F_init_93 : decode y_F_init.2.1 93 = .ok (.getfield 21, 3) := by decide +kernel
theorem d_F_init_96 : decode y_F_init.2.1 96 = .ok (.aload_n 0, 1) := by decide +kernel
theorem d_F_init_97 : decode y_F_init.2.1 97 = .ok (.getfield 12, 3) := by decide +kernel
theorem d_F_init_100 : decode y_F_init.2.1 100 = .ok (.aload_n 0, 1) := by decide +kernel
theorem d_F_init_101 : decode y_F_init.2.1 101 = .ok (.getfield 30, 3) := by decide +kernel
theorem d_F_init_104 : decode y_F_init.2.1 104 = .ok (.aload_n 0, 1) := by decide +kernel
theorem d_F_init_105 : decode y_F_init.2.1 105 = .ok (.getfield 39, 3) := by decide +kernel
theorem d_F_init_108 : decode y_F_init.2.1 108 = .ok (.aload_n 0, 1) := by decide +kernel
theorem d_F_init_109 : decode y_F_init.2.1 109 = .ok (.getfield 46, 3) := by decide +kernel
theorem d_F_init_112 : decode y_F_init.2.1 112 = .ok (.invokespecial 52, 3) := by decide +kernel
theorem d_F_init_115 : decode y_F_init.2.1 115 = .ok (.putfield 55, 3) := by decide +kernel
theorem d_F_init_118 : decode y_F_init.2.1 118 = .ok (.aload_n 0, 1) := by decide +kernel
theorem d_F_init_119 : decode y_F_init.2.1 119 = .ok (.new 59, 3) := by decide +kernel
theorem d_F_init_122 : decode y_F_init.2.1 122 = .ok (.dup, 1) := by decide +kernel
theorem d_F_init_123 : decode y_F_init.2.1 123 = .ok (.aload_n 0, 1) := by decide +kernel
theorem d_F_init_124 : decode y_F_init.2.1 124 = .ok (.getfield 21, 3) := by decide +kernel
theorem d_F_init_127 : decode y_F_init.2.1 127 = .ok (.aload_n 0, 1) := by decide +kernel
theorem d_F_init_128 : decode y_F_init.2.1 128 = .ok (.getfield 30, 3) := by decide +kernel
theorem d_F_init_131 : decode y_F_init.2.1 131 = .ok (.invokespecial 61, 3) := by decide +kernel
theorem d_F_init_134 : decode y_F_init.2.1 134 = .ok (.putfield 62, 3) := by decide +kernel
theorem d_F_init_137 : decode y_F_init.2.1 137 = .ok (.aload_n 0, 1) := by decide +kernel
theorem d_F_init_138 : decode y_F_init.2.1 138 = .ok (.new 66, 3) := by decide +kernel
theorem d_F_init_141 : decode y_F_init.2.1 141 = .ok (.dup, 1) := by decide +kernel
theorem d_F_init_142 : decode y_F_init.2.1 142 = .ok (.aload_n 0, 1) := by decide +kernel
theorem d_F_init_143 : decode y_F_init.2.1 143 = .ok (.getfield 21, 3) := by decide +kernel
theorem d_F_init_146 : decode y_F_init.2.1 146 = .ok (.aload_n 0, 1) := by decide +kernel
theorem d_F_init_147 : decode y_F_init.2.1 147 = .ok (.getfield 30, 3) := by decide +kernel
theorem d_F_init_150 : decode y_F_init.2.1 150 = .ok (.invokespecial 68, 3) := by decide +kernel
theorem d_F_init_153 : decode y_F_init.2.1 153 = .ok (.putfield 69, 3) := by decide +kernel
theorem d_F_init_156 : decode y_F_init.2.1 156 = .ok (.aload_n 0, 1) := by decide +kernel
theorem d_F_init_157 : decode y_F_init.2.1 157 = .ok (.new 73, 3) := by decide +kernel
theorem d_F_init_160 : decode y_F_init.2.1 160 = .ok (.dup, 1) := by decide +kernel
theorem d_F_init_161 : decode y_F_init.2.1 161 = .ok (.invokespecial 75, 3) := by decide +kernel
theorem d_F_init_164 : decode y_F_init.2.1 164 = .ok (.putfield 76, 3) := by decide +kernel
theorem d_F_init_167 : decode y_F_init.2.1 167 = .ok (.return_, 1) := by decide +kernel
theorem d_F_piece_0 : decode y_F_piece.2.1 0 = .ok (.iload_n 1, 1) := by decide +kernel
theorem d_F_piece_1 : decode y_F_piece.2.1 1 = .ok (.iconst 1, 1) := by decide +kernel
theorem d_F_piece_2 : decode y_F_piece.2.1 2 = .ok (.sipush 200, 3) := by decide +kernel
theorem d_F_piece_5 : decode y_F_piece.2.1 5 = .ok (.invokestatic 80, 3) := by decide +kernel
theorem d_F_piece_8 : decode y_F_piece.2.1 8 = .ok (.iload_n 2, 1) := by decide +kernel
theorem d_F_piece_9 : decode y_F_piece.2.1 9 = .ok (.iconst 0, 1) := by decide +kernel
theorem d_F_piece_10 : decode y_F_piece.2.1 10 = .ok (.bipush 40, 2) := by decide +kernel
theorem d_F_piece_12 : decode y_F_piece.2.1 12 = .ok (.invokestatic 80, 3) := by decide +kernel
theorem d_F_piece_15 : decode y_F_piece.2.1 15 = .ok (.aload_n 0, 1) := by decide +kernel
theorem d_F_piece_16 : decode y_F_piece.2.1 16 = .ok (.getfield 21, 3) := by decide +kernel
theorem d_F_piece_19 : decode y_F_piece.2.1 19 = .ok (.aload_n 0, 1) := by decide +kernel
theorem d_F_piece_20 : decode y_F_piece.2.1 20 = .ok (.getfield 21, 3) := by decide +kernel
theorem d_F_piece_23 : decode y_F_piece.2.1 23 = .ok (.getfield 84, 3) := by decide +kernel
theorem d_F_piece_26 : decode y_F_piece.2.1 26 = .ok (.iload_n 1, 1) := by decide +kernel
theorem d_F_piece_27 : decode y_F_piece.2.1 27 = .ok (.iload_n 2, 1) := by decide +kernel
theorem d_F_piece_28 : decode y_F_piece.2.1 28 = .ok (.bipush 21, 2) := by decide +kernel
theorem d_F_piece_30 : decode y_F_piece.2.1 30 = .ok (.iconst 0, 1) := by decide +kernel
theorem d_F_piece_31 : decode y_F_piece.2.1 31 = .ok (.iconst 0, 1) := by decide +kernel
theorem d_F_piece_32 : decode y_F_piece.2.1 32 = .ok (.iconst 0, 1) := by decide +kernel
theorem d_F_piece_33 : decode y_F_piece.2.1 33 = .ok (.invokevirtual 88, 3) := by decide +kernel
theorem d_F_piece_36 : decode y_F_piece.2.1 36 = .ok (.ireturn, 1) := by decide +kernel
theorem d_F_way_0 : decode y_F_way.2.1 0 = .ok (.aload_n 0, 1) := by decide +kernel
theorem d_F_way_1 : decode y_F_way.2.1 1 = .ok (.getfield 21, 3) := by decide +kernel
theorem d_F_way_4 : decode y_F_way.2.1 4 = .ok (.getfield 84, 3) := by decide +kernel
theorem d_F_way_7 : decode y_F_way.2.1 7 = .ok (.iload_n 1, 1) := by decide +kernel
theorem d_F_way_8 : decode y_F_way.2.1 8 = .ok (.invokestatic 92, 3) := by decide +kernel
theorem d_F_way_11 : decode y_F_way.2.1 11 = .ok (.aload_n 0, 1) := by decide +kernel
theorem d_F_way_12 : decode y_F_way.2.1 12 = .ok (.getfield 21, 3) := by decide +kernel
theorem d_F_way_15 : decode y_F_way.2.1 15 = .ok (.getfield 84, 3) := by decide +kernel
theorem d_F_way_18 : decode y_F_way.2.1 18 = .ok (.iload_n 2, 1) := by decide +kernel
theorem d_F_way_19 : decode y_F_way.2.1 19 = .ok (.invokestatic 92, 3) := by decide +kernel
theorem d_F_way_22 : decode y_F_way.2.1 22 = .ok (.iload_n 1, 1) := by decide +kernel
theorem d_F_way_23 : decode y_F_way.2.1 23 = .ok (.iload_n 2, 1) := by decide +kernel
theorem d_F_way_24 : decode y_F_way.2.1 24 = .ok (.if_icmp .ne 13, 3) := by decide +kernel
theorem d_F_way_27 : decode y_F_way.2.1 27 = .ok (.new 96, 3) := by decide +kernel
theorem d_F_way_30 : decode y_F_way.2.1 30 = .ok (.dup, 1) := by decide +kernel
theorem d_F_way_31 : decode y_F_way.2.1 31 = .ok (.ldc 98, 2) := by decide +kernel
theorem d_F_way_33 : decode y_F_way.2.1 33 = .ok (.invokespecial 100, 3) := by decide +kernel
theorem d_F_way_36 : decode y_F_way.2.1 36 = .ok (.athrow, 1) := by decide +kernel
theorem d_F_way_37 : decode y_F_way.2.1 37 = .ok (.iload_n 3, 1) := by decide +kernel
theorem d_F_way_38 : decode y_F_way.2.1 38 = .ok (.iconst 1, 1) := by decide +kernel
theorem d_F_way_39 : decode y_F_way.2.1 39 = .ok (.iconst 4, 1) := by decide +kernel
theorem d_F_way_40 : decode y_F_way.2.1 40 = .ok (.invokestatic 80, 3) := by decide +kernel
theorem d_F_way_43 : decode y_F_way.2.1 43 = .ok (.iload 4, 2) := by decide +kernel
theorem d_F_way_45 : decode y_F_way.2.1 45 = .ok (.iconst 1, 1) := by decide +kernel
theorem d_F_way_46 : decode y_F_way.2.1 46 = .ok (.bipush 40, 2) := by decide +kernel
theorem d_F_way_48 : decode y_F_way.2.1 48 = .ok (.invokestatic 80, 3) := by decide +kernel
theorem d_F_way_51 : decode y_F_way.2.1 51 = .ok (.iload 5, 2) := by decide +kernel
theorem d_F_way_53 : decode y_F_way.2.1 53 = .ok (.bipush (-8), 2) := by decide +kernel
theorem d_F_way_55 : decode y_F_way.2.1 55 = .ok (.bipush 8, 2) := by decide +kernel
theorem d_F_way_57 : decode y_F_way.2.1 57 = .ok (.invokestatic 80, 3) := by decide +kernel
theorem d_F_way_60 : decode y_F_way.2.1 60 = .ok (.aload_n 0, 1) := by decide +kernel
theorem d_F_way_61 : decode y_F_way.2.1 61 = .ok (.getfield 21, 3) := by decide +kernel
theorem d_F_way_64 : decode y_F_way.2.1 64 = .ok (.aload_n 0, 1) := by decide +kernel
theorem d_F_way_65 : decode y_F_way.2.1 65 = .ok (.getfield 21, 3) := by decide +kernel
theorem d_F_way_68 : decode y_F_way.2.1 68 = .ok (.getfield 103, 3) := by decide +kernel
theorem d_F_way_71 : decode y_F_way.2.1 71 = .ok (.iload_n 1, 1) := by decide +kernel
theorem d_F_way_72 : decode y_F_way.2.1 72 = .ok (.iload_n 2, 1) := by decide +kernel
theorem d_F_way_73 : decode y_F_way.2.1 73 = .ok (.iload_n 3, 1) := by decide +kernel
theorem d_F_way_74 : decode y_F_way.2.1 74 = .ok (.iload 4, 2) := by decide +kernel
theorem d_F_way_76 : decode y_F_way.2.1 76 = .ok (.iload 5, 2) := by decide +kernel
theorem d_F_way_78 : decode y_F_way.2.1 78 = .ok (.iconst 0, 1) := by decide +kernel
theorem d_F_way_79 : decode y_F_way.2.1 79 = .ok (.invokevirtual 88, 3) := by decide +kernel
theorem d_F_way_82 : decode y_F_way.2.1 82 = .ok (.ireturn, 1) := by decide +kernel
theorem d_F_water_0 : decode y_F_water.2.1 0 = .ok (.aload_n 0, 1) := by decide +kernel
theorem d_F_water_1 : decode y_F_water.2.1 1 = .ok (.getfield 21, 3) := by decide +kernel
theorem d_F_water_4 : decode y_F_water.2.1 4 = .ok (.getfield 84, 3) := by decide +kernel
theorem d_F_water_7 : decode y_F_water.2.1 7 = .ok (.iload_n 1, 1) := by decide +kernel
theorem d_F_water_8 : decode y_F_water.2.1 8 = .ok (.invokestatic 92, 3) := by decide +kernel
theorem d_F_water_11 : decode y_F_water.2.1 11 = .ok (.iload_n 2, 1) := by decide +kernel
theorem d_F_water_12 : decode y_F_water.2.1 12 = .ok (.iconst 0, 1) := by decide +kernel
theorem d_F_water_13 : decode y_F_water.2.1 13 = .ok (.bipush 21, 2) := by decide +kernel
theorem d_F_water_15 : decode y_F_water.2.1 15 = .ok (.invokestatic 80, 3) := by decide +kernel
theorem d_F_water_18 : decode y_F_water.2.1 18 = .ok (.aload_n 0, 1) := by decide +kernel
theorem d_F_water_19 : decode y_F_water.2.1 19 = .ok (.getfield 21, 3) := by decide +kernel
theorem d_F_water_22 : decode y_F_water.2.1 22 = .ok (.aload_n 0, 1) := by decide +kernel
theorem d_F_water_23 : decode y_F_water.2.1 23 = .ok (.getfield 21, 3) := by decide +kernel
theorem d_F_water_26 : decode y_F_water.2.1 26 = .ok (.getfield 84, 3) := by decide +kernel
theorem d_F_water_29 : decode y_F_water.2.1 29 = .ok (.iload_n 1, 1) := by decide +kernel
theorem d_F_water_30 : decode y_F_water.2.1 30 = .ok (.iconst 2, 1) := by decide +kernel
theorem d_F_water_31 : decode y_F_water.2.1 31 = .ok (.iload_n 2, 1) := by decide +kernel
theorem d_F_water_32 : decode y_F_water.2.1 32 = .ok (.invokevirtual 106, 3) := by decide +kernel
theorem d_F_water_35 : decode y_F_water.2.1 35 = .ok (.ireturn, 1) := by decide +kernel
theorem d_F_fire_0 : decode y_F_fire.2.1 0 = .ok (.aload_n 0, 1) := by decide +kernel
theorem d_F_fire_1 : decode y_F_fire.2.1 1 = .ok (.getfield 21, 3) := by decide +kernel
theorem d_F_fire_4 : decode y_F_fire.2.1 4 = .ok (.getfield 84, 3) := by decide +kernel
theorem d_F_fire_7 : decode y_F_fire.2.1 7 = .ok (.iload_n 1, 1) := by decide +kernel
theorem d_F_fire_8 : decode y_F_fire.2.1 8 = .ok (.invokestatic 92, 3) := by decide +kernel
theorem d_F_fire_11 : decode y_F_fire.2.1 11 = .ok (.iload_n 2, 1) := by decide +kernel
theorem d_F_fire_12 : decode y_F_fire.2.1 12 = .ok (.invokestatic 110, 3) := by decide +kernel
theorem d_F_fire_15 : decode y_F_fire.2.1 15 = .ok (.iload_n 3, 1) := by decide +kernel
theorem d_F_fire_16 : decode y_F_fire.2.1 16 = .ok (.iload_n 2, 1) := by decide +kernel
theorem d_F_fire_17 : decode y_F_fire.2.1 17 = .ok (.iconst 1, 1) := by decide +kernel
theorem d_F_fire_18 : decode y_F_fire.2.1 18 = .ok (.iadd, 1) := by decide +kernel
theorem d_F_fire_19 : decode y_F_fire.2.1 19 = .ok (.bipush 21, 2) := by decide +kernel
theorem d_F_fire_21 : decode y_F_fire.2.1 21 = .ok (.invokestatic 80, 3) := by decide +kernel
theorem d_F_fire_24 : decode y_F_fire.2.1 24 = .ok (.iload 4, 2) := by decide +kernel
theorem d_F_fire_26 : decode y_F_fire.2.1 26 = .ok (.iconst 0, 1) := by decide +kernel
theorem d_F_fire_27 : decode y_F_fire.2.1 27 = .ok (.ldc 114, 2) := by decide +kernel
theorem d_F_fire_29 : decode y_F_fire.2.1 29 = .ok (.invokestatic 80, 3) := by decide +kernel
theorem d_F_fire_32 : decode y_F_fire.2.1 32 = .ok (.iload 5, 2) := by decide +kernel
theorem d_F_fire_34 : decode y_F_fire.2.1 34 = .ok (.iconst 0, 1) := by decide +kernel
theorem d_F_fire_35 : decode y_F_fire.2.1 35 = .ok (.ldc 114, 2) := by decide +kernel
theorem d_F_fire_37 : decode y_F_fire.2.1 37 = .ok (.invokestatic 80, 3) := by decide +kernel
theorem d_F_fire_40 : decode y_F_fire.2.1 40 = .ok (.iload 6, 2) := by decide +kernel
theorem d_F_fire_42 : decode y_F_fire.2.1 42 = .ok (.iconst 0, 1) := by decide +kernel
theorem d_F_fire_43 : decode y_F_fire.2.1 43 = .ok (.ldc 114, 2) := by decide +kernel
theorem d_F_fire_45 : decode y_F_fire.2.1 45 = .ok (.invokestatic 80, 3) := by decide +kernel
theorem d_F_fire_48 : decode y_F_fire.2.1 48 = .ok (.aload_n 0, 1) := by decide +kernel
theorem d_F_fire_49 : decode y_F_fire.2.1 49 = .ok (.getfield 21, 3) := by decide +kernel
theorem d_F_fire_52 : decode y_F_fire.2.1 52 = .ok (.aload_n 0, 1) := by decide +kernel
theorem d_F_fire_53 : decode y_F_fire.2.1 53 = .ok (.getfield 21, 3) := by decide +kernel
theorem d_F_fire_56 : decode y_F_fire.2.1 56 = .ok (.getfield 115, 3) := by decide +kernel
theorem d_F_fire_59 : decode y_F_fire.2.1 59 = .ok (.iload_n 1, 1) := by decide +kernel
theorem d_F_fire_60 : decode y_F_fire.2.1 60 = .ok (.iload_n 2, 1) := by decide +kernel
theorem d_F_fire_61 : decode y_F_fire.2.1 61 = .ok (.iload_n 3, 1) := by decide +kernel
theorem d_F_fire_62 : decode y_F_fire.2.1 62 = .ok (.iload 4, 2) := by decide +kernel
theorem d_F_fire_64 : decode y_F_fire.2.1 64 = .ok (.iload 5, 2) := by decide +kernel
theorem d_F_fire_66 : decode y_F_fire.2.1 66 = .ok (.iload 6, 2) := by decide +kernel
theorem d_F_fire_68 : decode y_F_fire.2.1 68 = .ok (.invokevirtual 88, 3) := by decide +kernel
theorem d_F_fire_71 : decode y_F_fire.2.1 71 = .ok (.ireturn, 1) := by decide +kernel
theorem d_F_fan_0 : decode y_F_fan.2.1 0 = .ok (.aload_n 0, 1) := by decide +kernel
theorem d_F_fan_1 : decode y_F_fan.2.1 1 = .ok (.getfield 21, 3) := by decide +kernel
theorem d_F_fan_4 : decode y_F_fan.2.1 4 = .ok (.getfield 103, 3) := by decide +kernel
theorem d_F_fan_7 : decode y_F_fan.2.1 7 = .ok (.iload_n 1, 1) := by decide +kernel
theorem d_F_fan_8 : decode y_F_fan.2.1 8 = .ok (.invokestatic 92, 3) := by decide +kernel
theorem d_F_fan_11 : decode y_F_fan.2.1 11 = .ok (.iload_n 2, 1) := by decide +kernel
theorem d_F_fan_12 : decode y_F_fan.2.1 12 = .ok (.iconst 1, 1) := by decide +kernel
theorem d_F_fan_13 : decode y_F_fan.2.1 13 = .ok (.bipush 6, 2) := by decide +kernel
theorem d_F_fan_15 : decode y_F_fan.2.1 15 = .ok (.invokestatic 80, 3) := by decide +kernel
theorem d_F_fan_18 : decode y_F_fan.2.1 18 = .ok (.iload_n 3, 1) := by decide +kernel
theorem d_F_fan_19 : decode y_F_fan.2.1 19 = .ok (.iconst 1, 1) := by decide +kernel
theorem d_F_fan_20 : decode y_F_fan.2.1 20 = .ok (.ldc 118, 2) := by decide +kernel
theorem d_F_fan_22 : decode y_F_fan.2.1 22 = .ok (.invokestatic 80, 3) := by decide +kernel
theorem d_F_fan_25 : decode y_F_fan.2.1 25 = .ok (.aload_n 0, 1) := by decide +kernel
theorem d_F_fan_26 : decode y_F_fan.2.1 26 = .ok (.iload 4, 2) := by decide +kernel
theorem d_F_fan_28 : decode y_F_fan.2.1 28 = .ok (.invokevirtual 119, 3) := by decide +kernel
theorem d_F_fan_31 : decode y_F_fan.2.1 31 = .ok (.aload_n 0, 1) := by decide +kernel
theorem d_F_fan_32 : decode y_F_fan.2.1 32 = .ok (.getfield 21, 3) := by decide +kernel
theorem d_F_fan_35 : decode y_F_fan.2.1 35 = .ok (.aload_n 0, 1) := by decide +kernel
theorem d_F_fan_36 : decode y_F_fan.2.1 36 = .ok (.getfield 21, 3) := by decide +kernel
theorem d_F_fan_39 : decode y_F_fan.2.1 39 = .ok (.getfield 122, 3) := by decide +kernel
theorem d_F_fan_42 : decode y_F_fan.2.1 42 = .ok (.iload_n 1, 1) := by decide +kernel
theorem d_F_fan_43 : decode y_F_fan.2.1 43 = .ok (.iload_n 2, 1) := by decide +kernel
theorem d_F_fan_44 : decode y_F_fan.2.1 44 = .ok (.iload_n 3, 1) := by decide +kernel
theorem d_F_fan_45 : decode y_F_fan.2.1 45 = .ok (.iload 4, 2) := by decide +kernel
theorem d_F_fan_47 : decode y_F_fan.2.1 47 = .ok (.iconst 0, 1) := by decide +kernel
theorem d_F_fan_48 : decode y_F_fan.2.1 48 = .ok (.iconst 0, 1) := by decide +kernel
theorem d_F_fan_49 : decode y_F_fan.2.1 49 = .ok (.invokevirtual 88, 3) := by decide +kernel
theorem d_F_fan_52 : decode y_F_fan.2.1 52 = .ok (.ireturn, 1) := by decide +kernel
theorem d_F_set_0 : decode y_F_set.2.1 0 = .ok (.aload_n 0, 1) := by decide +kernel
theorem d_F_set_1 : decode y_F_set.2.1 1 = .ok (.getfield 21, 3) := by decide +kernel
theorem d_F_set_4 : decode y_F_set.2.1 4 = .ok (.getfield 122, 3) := by decide +kernel
theorem d_F_set_7 : decode y_F_set.2.1 7 = .ok (.iload_n 2, 1) := by decide +kernel
theorem d_F_set_8 : decode y_F_set.2.1 8 = .ok (.invokestatic 92, 3) := by decide +kernel
theorem d_F_set_11 : decode y_F_set.2.1 11 = .ok (.iload_n 1, 1) := by decide +kernel
theorem d_F_set_12 : decode y_F_set.2.1 12 = .ok (.invokestatic 125, 3) := by decide +kernel
theorem d_F_set_15 : decode y_F_set.2.1 15 = .ok (.iload_n 3, 1) := by decide +kernel
theorem d_F_set_16 : decode y_F_set.2.1 16 = .ok (.invokestatic 110, 3) := by decide +kernel
theorem d_F_set_19 : decode y_F_set.2.1 19 = .ok (.iload 4, 2) := by decide +kernel
theorem d_F_set_21 : decode y_F_set.2.1 21 = .ok (.iconst (-1), 1) := by decide +kernel
theorem d_F_set_22 : decode y_F_set.2.1 22 = .ok (.iconst 1, 1) := by decide +kernel
theorem d_F_set_23 : decode y_F_set.2.1 23 = .ok (.invokestatic 80, 3) := by decide +kernel
theorem d_F_set_26 : decode y_F_set.2.1 26 = .ok (.aload_n 0, 1) := by decide +kernel
theorem d_F_set_27 : decode y_F_set.2.1 27 = .ok (.getfield 21, 3) := by decide +kernel
theorem d_F_set_30 : decode y_F_set.2.1 30 = .ok (.aload_n 0, 1) := by decide +kernel
theorem d_F_set_31 : decode y_F_set.2.1 31 = .ok (.getfield 21, 3) := by decide +kernel
theorem d_F_set_34 : decode y_F_set.2.1 34 = .ok (.getfield 128, 3) := by decide +kernel
theorem d_F_set_37 : decode y_F_set.2.1 37 = .ok (.iload_n 1, 1) := by decide +kernel
theorem d_F_set_38 : decode y_F_set.2.1 38 = .ok (.iload_n 2, 1) := by decide +kernel
theorem d_F_set_39 : decode y_F_set.2.1 39 = .ok (.iload_n 3, 1) := by decide +kernel
theorem d_F_set_40 : decode y_F_set.2.1 40 = .ok (.iload 4, 2) := by decide +kernel
theorem d_F_set_42 : decode y_F_set.2.1 42 = .ok (.iconst 0, 1) := by decide +kernel
theorem d_F_set_43 : decode y_F_set.2.1 43 = .ok (.iconst 0, 1) := by decide +kernel
theorem d_F_set_44 : decode y_F_set.2.1 44 = .ok (.invokevirtual 88, 3) := by decide +kernel
theorem d_F_set_47 : decode y_F_set.2.1 47 = .ok (.ireturn, 1) := by decide +kernel
theorem d_F_eyes_0 : decode y_F_eyes.2.1 0 = .ok (.iload_n 1, 1) := by decide +kernel
theorem d_F_eyes_1 : decode y_F_eyes.2.1 1 = .ok (.iconst 0, 1) := by decide +kernel
theorem d_F_eyes_2 : decode y_F_eyes.2.1 2 = .ok (.ldc 118, 2) := by decide +kernel
theorem d_F_eyes_4 : decode y_F_eyes.2.1 4 = .ok (.invokestatic 80, 3) := by decide +kernel
theorem d_F_eyes_7 : decode y_F_eyes.2.1 7 = .ok (.aload_n 0, 1) := by decide +kernel
theorem d_F_eyes_8 : decode y_F_eyes.2.1 8 = .ok (.getfield 21, 3) := by decide +kernel
theorem d_F_eyes_11 : decode y_F_eyes.2.1 11 = .ok (.aload_n 0, 1) := by decide +kernel
theorem d_F_eyes_12 : decode y_F_eyes.2.1 12 = .ok (.getfield 21, 3) := by decide +kernel
theorem d_F_eyes_15 : decode y_F_eyes.2.1 15 = .ok (.getfield 131, 3) := by decide +kernel
theorem d_F_eyes_18 : decode y_F_eyes.2.1 18 = .ok (.iconst 0, 1) := by decide +kernel
theorem d_F_eyes_19 : decode y_F_eyes.2.1 19 = .ok (.iconst 0, 1) := by decide +kernel
theorem d_F_eyes_20 : decode y_F_eyes.2.1 20 = .ok (.iload_n 1, 1) := by decide +kernel
theorem d_F_eyes_21 : decode y_F_eyes.2.1 21 = .ok (.invokevirtual 106, 3) := by decide +kernel
theorem d_F_eyes_24 : decode y_F_eyes.2.1 24 = .ok (.ireturn, 1) := by decide +kernel
theorem d_F_group_0 : decode y_F_group.2.1 0 = .ok (.aload_n 0, 1) := by decide +kernel
theorem d_F_group_1 : decode y_F_group.2.1 1 = .ok (.getfield 21, 3) := by decide +kernel
theorem d_F_group_4 : decode y_F_group.2.1 4 = .ok (.getfield 84, 3) := by decide +kernel
theorem d_F_group_7 : decode y_F_group.2.1 7 = .ok (.iload_n 1, 1) := by decide +kernel
theorem d_F_group_8 : decode y_F_group.2.1 8 = .ok (.invokestatic 92, 3) := by decide +kernel
theorem d_F_group_11 : decode y_F_group.2.1 11 = .ok (.iload_n 2, 1) := by decide +kernel
theorem d_F_group_12 : decode y_F_group.2.1 12 = .ok (.iconst 1, 1) := by decide +kernel
theorem d_F_group_13 : decode y_F_group.2.1 13 = .ok (.bipush 60, 2) := by decide +kernel
theorem d_F_group_15 : decode y_F_group.2.1 15 = .ok (.invokestatic 80, 3) := by decide +kernel
theorem d_F_group_18 : decode y_F_group.2.1 18 = .ok (.iload_n 3, 1) := by decide +kernel
theorem d_F_group_19 : decode y_F_group.2.1 19 = .ok (.invokestatic 110, 3) := by decide +kernel
theorem d_F_group_22 : decode y_F_group.2.1 22 = .ok (.aload_n 0, 1) := by decide +kernel
theorem d_F_group_23 : decode y_F_group.2.1 23 = .ok (.getfield 21, 3) := by decide +kernel
theorem d_F_group_26 : decode y_F_group.2.1 26 = .ok (.aload_n 0, 1) := by decide +kernel
theorem d_F_group_27 : decode y_F_group.2.1 27 = .ok (.getfield 21, 3) := by decide +kernel
theorem d_F_group_30 : decode y_F_group.2.1 30 = .ok (.getfield 134, 3) := by decide +kernel
theorem d_F_group_33 : decode y_F_group.2.1 33 = .ok (.iload_n 1, 1) := by decide +kernel
theorem d_F_group_34 : decode y_F_group.2.1 34 = .ok (.iload_n 2, 1) := by decide +kernel
theorem d_F_group_35 : decode y_F_group.2.1 35 = .ok (.iload_n 3, 1) := by decide +kernel
theorem d_F_group_36 : decode y_F_group.2.1 36 = .ok (.iconst 0, 1) := by decide +kernel
theorem d_F_group_37 : decode y_F_group.2.1 37 = .ok (.iconst 0, 1) := by decide +kernel
theorem d_F_group_38 : decode y_F_group.2.1 38 = .ok (.iconst 0, 1) := by decide +kernel
theorem d_F_group_39 : decode y_F_group.2.1 39 = .ok (.invokevirtual 88, 3) := by decide +kernel
theorem d_F_group_42 : decode y_F_group.2.1 42 = .ok (.ireturn, 1) := by decide +kernel
theorem d_F_walk_0 : decode y_F_walk.2.1 0 = .ok (.iload_n 1, 1) := by decide +kernel
theorem d_F_walk_1 : decode y_F_walk.2.1 1 = .ok (.iconst 1, 1) := by decide +kernel
theorem d_F_walk_2 : decode y_F_walk.2.1 2 = .ok (.iconst 3, 1) := by decide +kernel
theorem d_F_walk_3 : decode y_F_walk.2.1 3 = .ok (.invokestatic 80, 3) := by decide +kernel
theorem d_F_walk_6 : decode y_F_walk.2.1 6 = .ok (.aload_n 0, 1) := by decide +kernel
theorem d_F_walk_7 : decode y_F_walk.2.1 7 = .ok (.getfield 21, 3) := by decide +kernel
theorem d_F_walk_10 : decode y_F_walk.2.1 10 = .ok (.aload_n 0, 1) := by decide +kernel
theorem d_F_walk_11 : decode y_F_walk.2.1 11 = .ok (.getfield 21, 3) := by decide +kernel
theorem d_F_walk_14 : decode y_F_walk.2.1 14 = .ok (.getfield 131, 3) := by decide +kernel
theorem d_F_walk_17 : decode y_F_walk.2.1 17 = .ok (.iconst 0, 1) := by decide +kernel
theorem d_F_walk_18 : decode y_F_walk.2.1 18 = .ok (.iconst 1, 1) := by decide +kernel
theorem d_F_walk_19 : decode y_F_walk.2.1 19 = .ok (.iload_n 1, 1) := by decide +kernel
theorem d_F_walk_20 : decode y_F_walk.2.1 20 = .ok (.invokevirtual 106, 3) := by decide +kernel
theorem d_F_walk_23 : decode y_F_walk.2.1 23 = .ok (.ireturn, 1) := by decide +kernel
theorem d_F_door_0 : decode y_F_door.2.1 0 = .ok (.aload_n 0, 1) := by decide +kernel
theorem d_F_door_1 : decode y_F_door.2.1 1 = .ok (.getfield 21, 3) := by decide +kernel
theorem d_F_door_4 : decode y_F_door.2.1 4 = .ok (.getfield 84, 3) := by decide +kernel
theorem d_F_door_7 : decode y_F_door.2.1 7 = .ok (.iload_n 1, 1) := by decide +kernel
theorem d_F_door_8 : decode y_F_door.2.1 8 = .ok (.invokestatic 92, 3) := by decide +kernel
theorem d_F_door_11 : decode y_F_door.2.1 11 = .ok (.iload_n 2, 1) := by decide +kernel
theorem d_F_door_12 : decode y_F_door.2.1 12 = .ok (.iconst 1, 1) := by decide +kernel
theorem d_F_door_13 : decode y_F_door.2.1 13 = .ok (.bipush 40, 2) := by decide +kernel
theorem d_F_door_15 : decode y_F_door.2.1 15 = .ok (.invokestatic 80, 3) := by decide +kernel
theorem d_F_door_18 : decode y_F_door.2.1 18 = .ok (.iload_n 3, 1) := by decide +kernel
theorem d_F_door_19 : decode y_F_door.2.1 19 = .ok (.iconst 1, 1) := by decide +kernel
theorem d_F_door_20 : decode y_F_door.2.1 20 = .ok (.sipush 1000, 3) := by decide +kernel
theorem d_F_door_23 : decode y_F_door.2.1 23 = .ok (.invokestatic 80, 3) := by decide +kernel
theorem d_F_door_26 : decode y_F_door.2.1 26 = .ok (.aload_n 0, 1) := by decide +kernel
theorem d_F_door_27 : decode y_F_door.2.1 27 = .ok (.getfield 21, 3) := by decide +kernel
theorem d_F_door_30 : decode y_F_door.2.1 30 = .ok (.aload_n 0, 1) := by decide +kernel
theorem d_F_door_31 : decode y_F_door.2.1 31 = .ok (.getfield 21, 3) := by decide +kernel
theorem d_F_door_34 : decode y_F_door.2.1 34 = .ok (.getfield 137, 3) := by decide +kernel
theorem d_F_door_37 : decode y_F_door.2.1 37 = .ok (.iload_n 1, 1) := by decide +kernel
theorem d_F_door_38 : decode y_F_door.2.1 38 = .ok (.iload_n 2, 1) := by decide +kernel
theorem d_F_door_39 : decode y_F_door.2.1 39 = .ok (.iload_n 3, 1) := by decide +kernel
theorem d_F_door_40 : decode y_F_door.2.1 40 = .ok (.iconst 0, 1) := by decide +kernel
theorem d_F_door_41 : decode y_F_door.2.1 41 = .ok (.iconst 0, 1) := by decide +kernel
theorem d_F_door_42 : decode y_F_door.2.1 42 = .ok (.iconst 0, 1) := by decide +kernel
theorem d_F_door_43 : decode y_F_door.2.1 43 = .ok (.invokevirtual 88, 3) := by decide +kernel
theorem d_F_door_46 : decode y_F_door.2.1 46 = .ok (.ireturn, 1) := by decide +kernel
theorem d_F_make_0 : decode y_F_make.2.1 0 = .ok (.aload_n 0, 1) := by decide +kernel
theorem d_F_make_1 : decode y_F_make.2.1 1 = .ok (.getfield 21, 3) := by decide +kernel
theorem d_F_make_4 : decode y_F_make.2.1 4 = .ok (.getfield 137, 3) := by decide +kernel
theorem d_F_make_7 : decode y_F_make.2.1 7 = .ok (.iload_n 1, 1) := by decide +kernel
theorem d_F_make_8 : decode y_F_make.2.1 8 = .ok (.invokestatic 92, 3) := by decide +kernel
theorem d_F_make_11 : decode y_F_make.2.1 11 = .ok (.aload_n 0, 1) := by decide +kernel
theorem d_F_make_12 : decode y_F_make.2.1 12 = .ok (.getfield 21, 3) := by decide +kernel
theorem d_F_make_15 : decode y_F_make.2.1 15 = .ok (.aload_n 0, 1) := by decide +kernel
theorem d_F_make_16 : decode y_F_make.2.1 16 = .ok (.getfield 21, 3) := by decide +kernel
theorem d_F_make_19 : decode y_F_make.2.1 19 = .ok (.getfield 137, 3) := by decide +kernel
theorem d_F_make_22 : decode y_F_make.2.1 22 = .ok (.iload_n 1, 1) := by decide +kernel
theorem d_F_make_23 : decode y_F_make.2.1 23 = .ok (.iconst 3, 1) := by decide +kernel
theorem d_F_make_24 : decode y_F_make.2.1 24 = .ok (.iload_n 2, 1) := by decide +kernel
theorem d_F_make_25 : decode y_F_make.2.1 25 = .ok (.ifCond .eq 7, 3) := by decide +kernel
theorem d_F_make_28 : decode y_F_make.2.1 28 = .ok (.iconst 1, 1) := by decide +kernel
theorem d_F_make_29 : decode y_F_make.2.1 29 = .ok (.goto 4, 3) := by decide +kernel
theorem d_F_make_32 : decode y_F_make.2.1 32 = .ok (.iconst 0, 1) := by decide +kernel
theorem d_F_make_33 : decode y_F_make.2.1 33 = .ok (.invokevirtual 106, 3) := by decide +kernel
theorem d_F_make_36 : decode y_F_make.2.1 36 = .ok (.iconst 1, 1) := by decide +kernel
theorem d_F_make_37 : decode y_F_make.2.1 37 = .ok (.if_icmp .ne 7, 3) := by decide +kernel
theorem d_F_make_40 : decode y_F_make.2.1 40 = .ok (.iconst 1, 1) := by decide +kernel
theorem d_F_make_41 : decode y_F_make.2.1 41 = .ok (.goto 4, 3) := by decide +kernel
theorem d_F_make_44 : decode y_F_make.2.1 44 = .ok (.iconst 0, 1) := by decide +kernel
theorem d_F_make_45 : decode y_F_make.2.1 45 = .ok (.ireturn, 1) := by decide +kernel
theorem d_F_gauges_0 : decode y_F_gauges.2.1 0 = .ok (.aload_n 0, 1) := by decide +kernel
theorem d_F_gauges_1 : decode y_F_gauges.2.1 1 = .ok (.iload_n 1, 1) := by decide +kernel
theorem d_F_gauges_2 : decode y_F_gauges.2.1 2 = .ok (.invokevirtual 119, 3) := by decide +kernel
theorem d_F_gauges_5 : decode y_F_gauges.2.1 5 = .ok (.iload_n 2, 1) := by decide +kernel
theorem d_F_gauges_6 : decode y_F_gauges.2.1 6 = .ok (.iconst 1, 1) := by decide +kernel
theorem d_F_gauges_7 : decode y_F_gauges.2.1 7 = .ok (.ldc 118, 2) := by decide +kernel
theorem d_F_gauges_9 : decode y_F_gauges.2.1 9 = .ok (.invokestatic 80, 3) := by decide +kernel
theorem d_F_gauges_12 : decode y_F_gauges.2.1 12 = .ok (.iload_n 3, 1) := by decide +kernel
theorem d_F_gauges_13 : decode y_F_gauges.2.1 13 = .ok (.iconst 0, 1) := by decide +kernel
theorem d_F_gauges_14 : decode y_F_gauges.2.1 14 = .ok (.iconst 5, 1) := by decide +kernel
theorem d_F_gauges_15 : decode y_F_gauges.2.1 15 = .ok (.invokestatic 80, 3) := by decide +kernel
theorem d_F_gauges_18 : decode y_F_gauges.2.1 18 = .ok (.aload_n 0, 1) := by decide +kernel
theorem d_F_gauges_19 : decode y_F_gauges.2.1 19 = .ok (.getfield 21, 3) := by decide +kernel
theorem d_F_gauges_22 : decode y_F_gauges.2.1 22 = .ok (.iload_n 1, 1) := by decide +kernel
theorem d_F_gauges_23 : decode y_F_gauges.2.1 23 = .ok (.iload_n 2, 1) := by decide +kernel
theorem d_F_gauges_24 : decode y_F_gauges.2.1 24 = .ok (.iload_n 3, 1) := by decide +kernel
theorem d_F_gauges_25 : decode y_F_gauges.2.1 25 = .ok (.invokevirtual 140, 3) := by decide +kernel
theorem d_F_gauges_28 : decode y_F_gauges.2.1 28 = .ok (.return_, 1) := by decide +kernel
theorem d_F_air_0 : decode y_F_air.2.1 0 = .ok (.aload_n 0, 1) := by decide +kernel
theorem d_F_air_1 : decode y_F_air.2.1 1 = .ok (.iload 4, 2) := by decide +kernel
theorem d_F_air_3 : decode y_F_air.2.1 3 = .ok (.invokevirtual 143, 3) := by decide +kernel
theorem d_F_air_6 : decode y_F_air.2.1 6 = .ok (.aload_n 0, 1) := by decide +kernel
theorem d_F_air_7 : decode y_F_air.2.1 7 = .ok (.getfield 21, 3) := by decide +kernel
theorem d_F_air_10 : decode y_F_air.2.1 10 = .ok (.getfield 103, 3) := by decide +kernel
theorem d_F_air_13 : decode y_F_air.2.1 13 = .ok (.iload 5, 2) := by decide +kernel
theorem d_F_air_15 : decode y_F_air.2.1 15 = .ok (.invokestatic 92, 3) := by decide +kernel
theorem d_F_air_18 : decode y_F_air.2.1 18 = .ok (.iload_n 1, 1) := by decide +kernel
theorem d_F_air_19 : decode y_F_air.2.1 19 = .ok (.iload_n 2, 1) := by decide +kernel
theorem d_F_air_20 : decode y_F_air.2.1 20 = .ok (.iload_n 3, 1) := by decide +kernel
theorem d_F_air_21 : decode y_F_air.2.1 21 = .ok (.invokestatic 146, 3) := by decide +kernel
theorem d_F_air_24 : decode y_F_air.2.1 24 = .ok (.iload 6, 2) := by decide +kernel
theorem d_F_air_26 : decode y_F_air.2.1 26 = .ok (.invokestatic 110, 3) := by decide +kernel
theorem d_F_air_29 : decode y_F_air.2.1 29 = .ok (.aload_n 0, 1) := by decide +kernel
theorem d_F_air_30 : decode y_F_air.2.1 30 = .ok (.getfield 30, 3) := by decide +kernel
theorem d_F_air_33 : decode y_F_air.2.1 33 = .ok (.iload_n 1, 1) := by decide +kernel
theorem d_F_air_34 : decode y_F_air.2.1 34 = .ok (.iload_n 2, 1) := by decide +kernel
theorem d_F_air_35 : decode y_F_air.2.1 35 = .ok (.iload_n 3, 1) := by decide +kernel
theorem d_F_air_36 : decode y_F_air.2.1 36 = .ok (.iload 4, 2) := by decide +kernel
theorem d_F_air_38 : decode y_F_air.2.1 38 = .ok (.invokevirtual 149, 3) := by decide +kernel
theorem d_F_air_41 : decode y_F_air.2.1 41 = .ok (.aload_n 0, 1) := by decide +kernel
theorem d_F_air_42 : decode y_F_air.2.1 42 = .ok (.getfield 30, 3) := by decide +kernel
theorem d_F_air_45 : decode y_F_air.2.1 45 = .ok (.iload 5, 2) := by decide +kernel
theorem d_F_air_47 : decode y_F_air.2.1 47 = .ok (.iload 6, 2) := by decide +kernel
theorem d_F_air_49 : decode y_F_air.2.1 49 = .ok (.invokevirtual 153, 3) := by decide +kernel
theorem d_F_air_52 : decode y_F_air.2.1 52 = .ok (.ireturn, 1) := by decide +kernel
theorem d_F_smoke_0 : decode y_F_smoke.2.1 0 = .ok (.aload_n 0, 1) := by decide +kernel
theorem d_F_smoke_1 : decode y_F_smoke.2.1 1 = .ok (.iload 4, 2) := by decide +kernel
theorem d_F_smoke_3 : decode y_F_smoke.2.1 3 = .ok (.invokevirtual 143, 3) := by decide +kernel
theorem d_F_smoke_6 : decode y_F_smoke.2.1 6 = .ok (.aload_n 0, 1) := by decide +kernel
theorem d_F_smoke_7 : decode y_F_smoke.2.1 7 = .ok (.getfield 21, 3) := by decide +kernel
theorem d_F_smoke_10 : decode y_F_smoke.2.1 10 = .ok (.getfield 84, 3) := by decide +kernel
theorem d_F_smoke_13 : decode y_F_smoke.2.1 13 = .ok (.iload 5, 2) := by decide +kernel
theorem d_F_smoke_15 : decode y_F_smoke.2.1 15 = .ok (.invokestatic 92, 3) := by decide +kernel
theorem d_F_smoke_18 : decode y_F_smoke.2.1 18 = .ok (.iload_n 1, 1) := by decide +kernel
theorem d_F_smoke_19 : decode y_F_smoke.2.1 19 = .ok (.iload_n 2, 1) := by decide +kernel
theorem d_F_smoke_20 : decode y_F_smoke.2.1 20 = .ok (.iload_n 3, 1) := by decide +kernel
theorem d_F_smoke_21 : decode y_F_smoke.2.1 21 = .ok (.invokestatic 146, 3) := by decide +kernel
theorem d_F_smoke_24 : decode y_F_smoke.2.1 24 = .ok (.iload 6, 2) := by decide +kernel
theorem d_F_smoke_26 : decode y_F_smoke.2.1 26 = .ok (.invokestatic 110, 3) := by decide +kernel
theorem d_F_smoke_29 : decode y_F_smoke.2.1 29 = .ok (.aload_n 0, 1) := by decide +kernel
theorem d_F_smoke_30 : decode y_F_smoke.2.1 30 = .ok (.getfield 30, 3) := by decide +kernel
theorem d_F_smoke_33 : decode y_F_smoke.2.1 33 = .ok (.iload_n 1, 1) := by decide +kernel
theorem d_F_smoke_34 : decode y_F_smoke.2.1 34 = .ok (.iload_n 2, 1) := by decide +kernel
theorem d_F_smoke_35 : decode y_F_smoke.2.1 35 = .ok (.iload_n 3, 1) := by decide +kernel
theorem d_F_smoke_36 : decode y_F_smoke.2.1 36 = .ok (.iload 4, 2) := by decide +kernel
theorem d_F_smoke_38 : decode y_F_smoke.2.1 38 = .ok (.invokevirtual 149, 3) := by decide +kernel
theorem d_F_smoke_41 : decode y_F_smoke.2.1 41 = .ok (.iload 7, 2) := by decide +kernel
theorem d_F_smoke_43 : decode y_F_smoke.2.1 43 = .ok (.ifCond .eq 18, 3) := by decide +kernel
theorem d_F_smoke_46 : decode y_F_smoke.2.1 46 = .ok (.aload_n 0, 1) := by decide +kernel
theorem d_F_smoke_47 : decode y_F_smoke.2.1 47 = .ok (.getfield 30, 3) := by decide +kernel
theorem d_F_smoke_50 : decode y_F_smoke.2.1 50 = .ok (.iload 5, 2) := by decide +kernel
theorem d_F_smoke_52 : decode y_F_smoke.2.1 52 = .ok (.iload 6, 2) := by decide +kernel
theorem d_F_smoke_54 : decode y_F_smoke.2.1 54 = .ok (.invokevirtual 157, 3) := by decide +kernel
theorem d_F_smoke_57 : decode y_F_smoke.2.1 57 = .ok (.i2l, 1) := by decide +kernel
theorem d_F_smoke_58 : decode y_F_smoke.2.1 58 = .ok (.goto 15, 3) := by decide +kernel
theorem d_F_smoke_61 : decode y_F_smoke.2.1 61 = .ok (.aload_n 0, 1) := by decide +kernel
theorem d_F_smoke_62 : decode y_F_smoke.2.1 62 = .ok (.getfield 30, 3) := by decide +kernel
theorem d_F_smoke_65 : decode y_F_smoke.2.1 65 = .ok (.iload 5, 2) := by decide +kernel
theorem d_F_smoke_67 : decode y_F_smoke.2.1 67 = .ok (.iload 6, 2) := by decide +kernel
theorem d_F_smoke_69 : decode y_F_smoke.2.1 69 = .ok (.invokevirtual 160, 3) := by decide +kernel
theorem d_F_smoke_72 : decode y_F_smoke.2.1 72 = .ok (.i2l, 1) := by decide +kernel
theorem d_F_smoke_73 : decode y_F_smoke.2.1 73 = .ok (.lreturn, 1) := by decide +kernel
theorem d_F_given_0 : decode y_F_given.2.1 0 = .ok (.aload_n 0, 1) := by decide +kernel
theorem d_F_given_1 : decode y_F_given.2.1 1 = .ok (.iload 4, 2) := by decide +kernel
theorem d_F_given_3 : decode y_F_given.2.1 3 = .ok (.invokevirtual 143, 3) := by decide +kernel
theorem d_F_given_6 : decode y_F_given.2.1 6 = .ok (.iload_n 1, 1) := by decide +kernel
theorem d_F_given_7 : decode y_F_given.2.1 7 = .ok (.iload_n 2, 1) := by decide +kernel
theorem d_F_given_8 : decode y_F_given.2.1 8 = .ok (.iload_n 3, 1) := by decide +kernel
theorem d_F_given_9 : decode y_F_given.2.1 9 = .ok (.invokestatic 146, 3) := by decide +kernel
theorem d_F_given_12 : decode y_F_given.2.1 12 = .ok (.iload 5, 2) := by decide +kernel
theorem d_F_given_14 : decode y_F_given.2.1 14 = .ok (.invokestatic 110, 3) := by decide +kernel
theorem d_F_given_17 : decode y_F_given.2.1 17 = .ok (.iload 6, 2) := by decide +kernel
theorem d_F_given_19 : decode y_F_given.2.1 19 = .ok (.iconst 0, 1) := by decide +kernel
theorem d_F_given_20 : decode y_F_given.2.1 20 = .ok (.iconst 3, 1) := by decide +kernel
theorem d_F_given_21 : decode y_F_given.2.1 21 = .ok (.invokestatic 80, 3) := by decide +kernel
theorem d_F_given_24 : decode y_F_given.2.1 24 = .ok (.aload_n 0, 1) := by decide +kernel
theorem d_F_given_25 : decode y_F_given.2.1 25 = .ok (.getfield 30, 3) := by decide +kernel
theorem d_F_given_28 : decode y_F_given.2.1 28 = .ok (.iload_n 1, 1) := by decide +kernel
theorem d_F_given_29 : decode y_F_given.2.1 29 = .ok (.iload_n 2, 1) := by decide +kernel
theorem d_F_given_30 : decode y_F_given.2.1 30 = .ok (.iload_n 3, 1) := by decide +kernel
theorem d_F_given_31 : decode y_F_given.2.1 31 = .ok (.iload 4, 2) := by decide +kernel
theorem d_F_given_33 : decode y_F_given.2.1 33 = .ok (.invokevirtual 149, 3) := by decide +kernel
theorem d_F_given_36 : decode y_F_given.2.1 36 = .ok (.aload_n 0, 1) := by decide +kernel
theorem d_F_given_37 : decode y_F_given.2.1 37 = .ok (.getfield 30, 3) := by decide +kernel
theorem d_F_given_40 : decode y_F_given.2.1 40 = .ok (.iload 5, 2) := by decide +kernel
theorem d_F_given_42 : decode y_F_given.2.1 42 = .ok (.iload 6, 2) := by decide +kernel
theorem d_F_given_44 : decode y_F_given.2.1 44 = .ok (.invokevirtual 163, 3) := by decide +kernel
theorem d_F_given_47 : decode y_F_given.2.1 47 = .ok (.i2l, 1) := by decide +kernel
theorem d_F_given_48 : decode y_F_given.2.1 48 = .ok (.lreturn, 1) := by decide +kernel
theorem d_F_lost_0 : decode y_F_lost.2.1 0 = .ok (.aload_n 0, 1) := by decide +kernel
theorem d_F_lost_1 : decode y_F_lost.2.1 1 = .ok (.iload 4, 2) := by decide +kernel
theorem d_F_lost_3 : decode y_F_lost.2.1 3 = .ok (.invokevirtual 143, 3) := by decide +kernel
theorem d_F_lost_6 : decode y_F_lost.2.1 6 = .ok (.aload_n 0, 1) := by decide +kernel
theorem d_F_lost_7 : decode y_F_lost.2.1 7 = .ok (.getfield 21, 3) := by decide +kernel
theorem d_F_lost_10 : decode y_F_lost.2.1 10 = .ok (.getfield 122, 3) := by decide +kernel
theorem d_F_lost_13 : decode y_F_lost.2.1 13 = .ok (.iload 5, 2) := by decide +kernel
theorem d_F_lost_15 : decode y_F_lost.2.1 15 = .ok (.invokestatic 92, 3) := by decide +kernel
theorem d_F_lost_18 : decode y_F_lost.2.1 18 = .ok (.iload_n 1, 1) := by decide +kernel
theorem d_F_lost_19 : decode y_F_lost.2.1 19 = .ok (.iload_n 2, 1) := by decide +kernel
theorem d_F_lost_20 : decode y_F_lost.2.1 20 = .ok (.iload_n 3, 1) := by decide +kernel
theorem d_F_lost_21 : decode y_F_lost.2.1 21 = .ok (.invokestatic 146, 3) := by decide +kernel
theorem d_F_lost_24 : decode y_F_lost.2.1 24 = .ok (.aload_n 0, 1) := by decide +kernel
theorem d_F_lost_25 : decode y_F_lost.2.1 25 = .ok (.getfield 30, 3) := by decide +kernel
theorem d_F_lost_28 : decode y_F_lost.2.1 28 = .ok (.iload_n 1, 1) := by decide +kernel
theorem d_F_lost_29 : decode y_F_lost.2.1 29 = .ok (.iload_n 2, 1) := by decide +kernel
theorem d_F_lost_30 : decode y_F_lost.2.1 30 = .ok (.iload_n 3, 1) := by decide +kernel
theorem d_F_lost_31 : decode y_F_lost.2.1 31 = .ok (.iload 4, 2) := by decide +kernel
theorem d_F_lost_33 : decode y_F_lost.2.1 33 = .ok (.invokevirtual 149, 3) := by decide +kernel
theorem d_F_lost_36 : decode y_F_lost.2.1 36 = .ok (.aload_n 0, 1) := by decide +kernel
theorem d_F_lost_37 : decode y_F_lost.2.1 37 = .ok (.getfield 30, 3) := by decide +kernel
theorem d_F_lost_40 : decode y_F_lost.2.1 40 = .ok (.iload 5, 2) := by decide +kernel
theorem d_F_lost_42 : decode y_F_lost.2.1 42 = .ok (.invokevirtual 166, 3) := by decide +kernel
theorem d_F_lost_45 : decode y_F_lost.2.1 45 = .ok (.ireturn, 1) := by decide +kernel
theorem d_F_shut_0 : decode y_F_shut.2.1 0 = .ok (.aload_n 0, 1) := by decide +kernel
theorem d_F_shut_1 : decode y_F_shut.2.1 1 = .ok (.iload 4, 2) := by decide +kernel
theorem d_F_shut_3 : decode y_F_shut.2.1 3 = .ok (.invokevirtual 143, 3) := by decide +kernel
theorem d_F_shut_6 : decode y_F_shut.2.1 6 = .ok (.aload_n 0, 1) := by decide +kernel
theorem d_F_shut_7 : decode y_F_shut.2.1 7 = .ok (.getfield 21, 3) := by decide +kernel
theorem d_F_shut_10 : decode y_F_shut.2.1 10 = .ok (.getfield 84, 3) := by decide +kernel
theorem d_F_shut_13 : decode y_F_shut.2.1 13 = .ok (.iload 5, 2) := by decide +kernel
theorem d_F_shut_15 : decode y_F_shut.2.1 15 = .ok (.invokestatic 92, 3) := by decide +kernel
theorem d_F_shut_18 : decode y_F_shut.2.1 18 = .ok (.iload_n 1, 1) := by decide +kernel
theorem d_F_shut_19 : decode y_F_shut.2.1 19 = .ok (.iload_n 2, 1) := by decide +kernel
theorem d_F_shut_20 : decode y_F_shut.2.1 20 = .ok (.iload_n 3, 1) := by decide +kernel
theorem d_F_shut_21 : decode y_F_shut.2.1 21 = .ok (.invokestatic 146, 3) := by decide +kernel
theorem d_F_shut_24 : decode y_F_shut.2.1 24 = .ok (.iload 6, 2) := by decide +kernel
theorem d_F_shut_26 : decode y_F_shut.2.1 26 = .ok (.invokestatic 110, 3) := by decide +kernel
theorem d_F_shut_29 : decode y_F_shut.2.1 29 = .ok (.aload_n 0, 1) := by decide +kernel
theorem d_F_shut_30 : decode y_F_shut.2.1 30 = .ok (.getfield 30, 3) := by decide +kernel
theorem d_F_shut_33 : decode y_F_shut.2.1 33 = .ok (.iload_n 1, 1) := by decide +kernel
theorem d_F_shut_34 : decode y_F_shut.2.1 34 = .ok (.iload_n 2, 1) := by decide +kernel
theorem d_F_shut_35 : decode y_F_shut.2.1 35 = .ok (.iload_n 3, 1) := by decide +kernel
theorem d_F_shut_36 : decode y_F_shut.2.1 36 = .ok (.iload 4, 2) := by decide +kernel
theorem d_F_shut_38 : decode y_F_shut.2.1 38 = .ok (.invokevirtual 149, 3) := by decide +kernel
theorem d_F_shut_41 : decode y_F_shut.2.1 41 = .ok (.aload_n 0, 1) := by decide +kernel
theorem d_F_shut_42 : decode y_F_shut.2.1 42 = .ok (.getfield 30, 3) := by decide +kernel
theorem d_F_shut_45 : decode y_F_shut.2.1 45 = .ok (.iload 5, 2) := by decide +kernel
theorem d_F_shut_47 : decode y_F_shut.2.1 47 = .ok (.iload 6, 2) := by decide +kernel
theorem d_F_shut_49 : decode y_F_shut.2.1 49 = .ok (.invokevirtual 170, 3) := by decide +kernel
theorem d_F_shut_52 : decode y_F_shut.2.1 52 = .ok (.ireturn, 1) := by decide +kernel
theorem d_F_out_0 : decode y_F_out.2.1 0 = .ok (.aload_n 0, 1) := by decide +kernel
theorem d_F_out_1 : decode y_F_out.2.1 1 = .ok (.iload 4, 2) := by decide +kernel
theorem d_F_out_3 : decode y_F_out.2.1 3 = .ok (.invokevirtual 143, 3) := by decide +kernel
theorem d_F_out_6 : decode y_F_out.2.1 6 = .ok (.iload_n 1, 1) := by decide +kernel
theorem d_F_out_7 : decode y_F_out.2.1 7 = .ok (.iload_n 2, 1) := by decide +kernel
theorem d_F_out_8 : decode y_F_out.2.1 8 = .ok (.iload_n 3, 1) := by decide +kernel
theorem d_F_out_9 : decode y_F_out.2.1 9 = .ok (.invokestatic 146, 3) := by decide +kernel
theorem d_F_out_12 : decode y_F_out.2.1 12 = .ok (.iload 5, 2) := by decide +kernel
theorem d_F_out_14 : decode y_F_out.2.1 14 = .ok (.invokestatic 110, 3) := by decide +kernel
theorem d_F_out_17 : decode y_F_out.2.1 17 = .ok (.aload_n 0, 1) := by decide +kernel
theorem d_F_out_18 : decode y_F_out.2.1 18 = .ok (.getfield 55, 3) := by decide +kernel
theorem d_F_out_21 : decode y_F_out.2.1 21 = .ok (.iload_n 1, 1) := by decide +kernel
theorem d_F_out_22 : decode y_F_out.2.1 22 = .ok (.iload_n 2, 1) := by decide +kernel
theorem d_F_out_23 : decode y_F_out.2.1 23 = .ok (.iload_n 3, 1) := by decide +kernel
theorem d_F_out_24 : decode y_F_out.2.1 24 = .ok (.iload 4, 2) := by decide +kernel
theorem d_F_out_26 : decode y_F_out.2.1 26 = .ok (.iload 5, 2) := by decide +kernel
theorem d_F_out_28 : decode y_F_out.2.1 28 = .ok (.invokevirtual 174, 3) := by decide +kernel
theorem d_F_out_31 : decode y_F_out.2.1 31 = .ok (.ireturn, 1) := by decide +kernel
theorem d_F_all_0 : decode y_F_all.2.1 0 = .ok (.aload_n 0, 1) := by decide +kernel
theorem d_F_all_1 : decode y_F_all.2.1 1 = .ok (.iload 4, 2) := by decide +kernel
theorem d_F_all_3 : decode y_F_all.2.1 3 = .ok (.invokevirtual 143, 3) := by decide +kernel
theorem d_F_all_6 : decode y_F_all.2.1 6 = .ok (.iload_n 1, 1) := by decide +kernel
theorem d_F_all_7 : decode y_F_all.2.1 7 = .ok (.iload_n 2, 1) := by decide +kernel
theorem d_F_all_8 : decode y_F_all.2.1 8 = .ok (.iload_n 3, 1) := by decide +kernel
theorem d_F_all_9 : decode y_F_all.2.1 9 = .ok (.invokestatic 146, 3) := by decide +kernel
theorem d_F_all_12 : decode y_F_all.2.1 12 = .ok (.aload_n 0, 1) := by decide +kernel
theorem d_F_all_13 : decode y_F_all.2.1 13 = .ok (.getfield 30, 3) := by decide +kernel
theorem d_F_all_16 : decode y_F_all.2.1 16 = .ok (.iload_n 1, 1) := by decide +kernel
theorem d_F_all_17 : decode y_F_all.2.1 17 = .ok (.iload_n 2, 1) := by decide +kernel
theorem d_F_all_18 : decode y_F_all.2.1 18 = .ok (.iload_n 3, 1) := by decide +kernel
theorem d_F_all_19 : decode y_F_all.2.1 19 = .ok (.iload 4, 2) := by decide +kernel
theorem d_F_all_21 : decode y_F_all.2.1 21 = .ok (.invokevirtual 149, 3) := by decide +kernel
theorem d_F_all_24 : decode y_F_all.2.1 24 = .ok (.aload_n 0, 1) := by decide +kernel
theorem d_F_all_25 : decode y_F_all.2.1 25 = .ok (.getfield 39, 3) := by decide +kernel
theorem d_F_all_28 : decode y_F_all.2.1 28 = .ok (.invokevirtual 178, 3) := by decide +kernel
theorem d_F_all_31 : decode y_F_all.2.1 31 = .ok (.ireturn, 1) := by decide +kernel
theorem d_F_side_0 : decode y_F_side.2.1 0 = .ok (.aload_n 0, 1) := by decide +kernel
theorem d_F_side_1 : decode y_F_side.2.1 1 = .ok (.iload 4, 2) := by decide +kernel
theorem d_F_side_3 : decode y_F_side.2.1 3 = .ok (.invokevirtual 143, 3) := by decide +kernel
theorem d_F_side_6 : decode y_F_side.2.1 6 = .ok (.iload_n 1, 1) := by decide +kernel
theorem d_F_side_7 : decode y_F_side.2.1 7 = .ok (.iload_n 2, 1) := by decide +kernel
theorem d_F_side_8 : decode y_F_side.2.1 8 = .ok (.iload_n 3, 1) := by decide +kernel
theorem d_F_side_9 : decode y_F_side.2.1 9 = .ok (.invokestatic 146, 3) := by decide +kernel
theorem d_F_side_12 : decode y_F_side.2.1 12 = .ok (.iload 5, 2) := by decide +kernel
theorem d_F_side_14 : decode y_F_side.2.1 14 = .ok (.invokestatic 110, 3) := by decide +kernel
theorem d_F_side_17 : decode y_F_side.2.1 17 = .ok (.iload 6, 2) := by decide +kernel
theorem d_F_side_19 : decode y_F_side.2.1 19 = .ok (.iconst 0, 1) := by decide +kernel
theorem d_F_side_20 : decode y_F_side.2.1 20 = .ok (.iload 5, 2) := by decide +kernel
theorem d_F_side_22 : decode y_F_side.2.1 22 = .ok (.invokestatic 80, 3) := by decide +kernel
theorem d_F_side_25 : decode y_F_side.2.1 25 = .ok (.aload_n 0, 1) := by decide +kernel
theorem d_F_side_26 : decode y_F_side.2.1 26 = .ok (.getfield 30, 3) := by decide +kernel
theorem d_F_side_29 : decode y_F_side.2.1 29 = .ok (.iload_n 1, 1) := by decide +kernel
theorem d_F_side_30 : decode y_F_side.2.1 30 = .ok (.iload_n 2, 1) := by decide +kernel
theorem d_F_side_31 : decode y_F_side.2.1 31 = .ok (.iload_n 3, 1) := by decide +kernel
theorem d_F_side_32 : decode y_F_side.2.1 32 = .ok (.iload 4, 2) := by decide +kernel
theorem d_F_side_34 : decode y_F_side.2.1 34 = .ok (.invokevirtual 149, 3) := by decide +kernel
theorem d_F_side_37 : decode y_F_side.2.1 37 = .ok (.aload_n 0, 1) := by decide +kernel
theorem d_F_side_38 : decode y_F_side.2.1 38 = .ok (.getfield 39, 3) := by decide +kernel
theorem d_F_side_41 : decode y_F_side.2.1 41 = .ok (.iload 5, 2) := by decide +kernel
theorem d_F_side_43 : decode y_F_side.2.1 43 = .ok (.aload_n 0, 1) := by decide +kernel
theorem d_F_side_44 : decode y_F_side.2.1 44 = .ok (.getfield 21, 3) := by decide +kernel
theorem d_F_side_47 : decode y_F_side.2.1 47 = .ok (.invokevirtual 182, 3) := by decide +kernel
theorem d_F_side_50 : decode y_F_side.2.1 50 = .ok (.aload_n 0, 1) := by decide +kernel
theorem d_F_side_51 : decode y_F_side.2.1 51 = .ok (.getfield 21, 3) := by decide +kernel
theorem d_F_side_54 : decode y_F_side.2.1 54 = .ok (.invokevirtual 185, 3) := by decide +kernel
theorem d_F_side_57 : decode y_F_side.2.1 57 = .ok (.invokevirtual 188, 3) := by decide +kernel
theorem d_F_side_60 : decode y_F_side.2.1 60 = .ok (.pop, 1) := by decide +kernel
theorem d_F_side_61 : decode y_F_side.2.1 61 = .ok (.aload_n 0, 1) := by decide +kernel
theorem d_F_side_62 : decode y_F_side.2.1 62 = .ok (.getfield 39, 3) := by decide +kernel
theorem d_F_side_65 : decode y_F_side.2.1 65 = .ok (.iload 6, 2) := by decide +kernel
theorem d_F_side_67 : decode y_F_side.2.1 67 = .ok (.invokevirtual 192, 3) := by decide +kernel
theorem d_F_side_70 : decode y_F_side.2.1 70 = .ok (.ireturn, 1) := by decide +kernel
theorem d_F_worth_0 : decode y_F_worth.2.1 0 = .ok (.aload_n 0, 1) := by decide +kernel
theorem d_F_worth_1 : decode y_F_worth.2.1 1 = .ok (.iload 4, 2) := by decide +kernel
theorem d_F_worth_3 : decode y_F_worth.2.1 3 = .ok (.invokevirtual 143, 3) := by decide +kernel
theorem d_F_worth_6 : decode y_F_worth.2.1 6 = .ok (.iload 6, 2) := by decide +kernel
theorem d_F_worth_8 : decode y_F_worth.2.1 8 = .ok (.invokestatic 195, 3) := by decide +kernel
theorem d_F_worth_11 : decode y_F_worth.2.1 11 = .ok (.iload_n 1, 1) := by decide +kernel
theorem d_F_worth_12 : decode y_F_worth.2.1 12 = .ok (.iload_n 2, 1) := by decide +kernel
theorem d_F_worth_13 : decode y_F_worth.2.1 13 = .ok (.iload_n 3, 1) := by decide +kernel
theorem d_F_worth_14 : decode y_F_worth.2.1 14 = .ok (.invokestatic 146, 3) := by decide +kernel
theorem d_F_worth_17 : decode y_F_worth.2.1 17 = .ok (.iload 5, 2) := by decide +kernel
theorem d_F_worth_19 : decode y_F_worth.2.1 19 = .ok (.invokestatic 110, 3) := by decide +kernel
theorem d_F_worth_22 : decode y_F_worth.2.1 22 = .ok (.aload_n 0, 1) := by decide +kernel
theorem d_F_worth_23 : decode y_F_worth.2.1 23 = .ok (.iload 6, 2) := by decide +kernel
theorem d_F_worth_25 : decode y_F_worth.2.1 25 = .ok (.iload 5, 2) := by decide +kernel
theorem d_F_worth_27 : decode y_F_worth.2.1 27 = .ok (.iconst 1, 1) := by decide +kernel
theorem d_F_worth_28 : decode y_F_worth.2.1 28 = .ok (.iadd, 1) := by decide +kernel
theorem d_F_worth_29 : decode y_F_worth.2.1 29 = .ok (.invokevirtual 198, 3) := by decide +kernel
theorem d_F_worth_32 : decode y_F_worth.2.1 32 = .ok (.aload_n 0, 1) := by decide +kernel
theorem d_F_worth_33 : decode y_F_worth.2.1 33 = .ok (.getfield 30, 3) := by decide +kernel
theorem d_F_worth_36 : decode y_F_worth.2.1 36 = .ok (.iload_n 1, 1) := by decide +kernel
theorem d_F_worth_37 : decode y_F_worth.2.1 37 = .ok (.iload_n 2, 1) := by decide +kernel
theorem d_F_worth_38 : decode y_F_worth.2.1 38 = .ok (.iload_n 3, 1) := by decide +kernel
theorem d_F_worth_39 : decode y_F_worth.2.1 39 = .ok (.iload 4, 2) := by decide +kernel
theorem d_F_worth_41 : decode y_F_worth.2.1 41 = .ok (.invokevirtual 149, 3) := by decide +kernel
theorem d_F_worth_44 : decode y_F_worth.2.1 44 = .ok (.aload_n 0, 1) := by decide +kernel
theorem d_F_worth_45 : decode y_F_worth.2.1 45 = .ok (.getfield 39, 3) := by decide +kernel
theorem d_F_worth_48 : decode y_F_worth.2.1 48 = .ok (.aload_n 0, 1) := by decide +kernel
theorem d_F_worth_49 : decode y_F_worth.2.1 49 = .ok (.getfield 76, 3) := by decide +kernel
theorem d_F_worth_52 : decode y_F_worth.2.1 52 = .ok (.iload 6, 2) := by decide +kernel
theorem d_F_worth_54 : decode y_F_worth.2.1 54 = .ok (.iload 5, 2) := by decide +kernel
theorem d_F_worth_56 : decode y_F_worth.2.1 56 = .ok (.invokevirtual 202, 3) := by decide +kernel
theorem d_F_worth_59 : decode y_F_worth.2.1 59 = .ok (.ireturn, 1) := by decide +kernel
theorem d_F_fewest_0 : decode y_F_fewest.2.1 0 = .ok (.iload_n 1, 1) := by decide +kernel
theorem d_F_fewest_1 : decode y_F_fewest.2.1 1 = .ok (.invokestatic 125, 3) := by decide +kernel
theorem d_F_fewest_4 : decode y_F_fewest.2.1 4 = .ok (.iload_n 2, 1) := by decide +kernel
theorem d_F_fewest_5 : decode y_F_fewest.2.1 5 = .ok (.invokestatic 110, 3) := by decide +kernel
theorem d_F_fewest_8 : decode y_F_fewest.2.1 8 = .ok (.iconst 1, 1) := by decide +kernel
theorem d_F_fewest_9 : decode y_F_fewest.2.1 9 = .ok (.aload_n 0, 1) := by decide +kernel
theorem d_F_fewest_10 : decode y_F_fewest.2.1 10 = .ok (.getfield 21, 3) := by decide +kernel
theorem d_F_fewest_13 : decode y_F_fewest.2.1 13 = .ok (.getfield 115, 3) := by decide +kernel
theorem d_F_fewest_16 : decode y_F_fewest.2.1 16 = .ok (.invokevirtual 206, 3) := by decide +kernel
theorem d_F_fewest_19 : decode y_F_fewest.2.1 19 = .ok (.ishl, 1) := by decide +kernel
theorem d_F_fewest_20 : decode y_F_fewest.2.1 20 = .ok (.iconst 1, 1) := by decide +kernel
theorem d_F_fewest_21 : decode y_F_fewest.2.1 21 = .ok (.isub, 1) := by decide +kernel
theorem d_F_fewest_22 : decode y_F_fewest.2.1 22 = .ok (.bipush 16, 2) := by decide +kernel
theorem d_F_fewest_24 : decode y_F_fewest.2.1 24 = .ok (.ior, 1) := by decide +kernel
theorem d_F_fewest_25 : decode y_F_fewest.2.1 25 = .ok (.istore 4, 2) := by decide +kernel
theorem d_F_fewest_27 : decode y_F_fewest.2.1 27 = .ok (.iload_n 3, 1) := by decide +kernel
theorem d_F_fewest_28 : decode y_F_fewest.2.1 28 = .ok (.iload 4, 2) := by decide +kernel
theorem d_F_fewest_30 : decode y_F_fewest.2.1 30 = .ok (.iconst (-1), 1) := by decide +kernel
theorem d_F_fewest_31 : decode y_F_fewest.2.1 31 = .ok (.ixor, 1) := by decide +kernel
theorem d_F_fewest_32 : decode y_F_fewest.2.1 32 = .ok (.iand, 1) := by decide +kernel
theorem d_F_fewest_33 : decode y_F_fewest.2.1 33 = .ok (.ifCond .eq 13, 3) := by decide +kernel
theorem d_F_fewest_36 : decode y_F_fewest.2.1 36 = .ok (.new 96, 3) := by decide +kernel
theorem d_F_fewest_39 : decode y_F_fewest.2.1 39 = .ok (.dup, 1) := by decide +kernel
theorem d_F_fewest_40 : decode y_F_fewest.2.1 40 = .ok (.ldc 211, 2) := by decide +kernel
theorem d_F_fewest_42 : decode y_F_fewest.2.1 42 = .ok (.invokespecial 100, 3) := by decide +kernel
theorem d_F_fewest_45 : decode y_F_fewest.2.1 45 = .ok (.athrow, 1) := by decide +kernel
theorem d_F_fewest_46 : decode y_F_fewest.2.1 46 = .ok (.aload_n 0, 1) := by decide +kernel
theorem d_F_fewest_47 : decode y_F_fewest.2.1 47 = .ok (.getfield 55, 3) := by decide +kernel
theorem d_F_fewest_50 : decode y_F_fewest.2.1 50 = .ok (.iload_n 1, 1) := by decide +kernel
theorem d_F_fewest_51 : decode y_F_fewest.2.1 51 = .ok (.iload_n 2, 1) := by decide +kernel
theorem d_F_fewest_52 : decode y_F_fewest.2.1 52 = .ok (.iload_n 3, 1) := by decide +kernel
theorem d_F_fewest_53 : decode y_F_fewest.2.1 53 = .ok (.invokevirtual 213, 3) := by decide +kernel
theorem d_F_fewest_56 : decode y_F_fewest.2.1 56 = .ok (.ireturn, 1) := by decide +kernel
theorem d_F_alike_0 : decode y_F_alike.2.1 0 = .ok (.aload_n 0, 1) := by decide +kernel
theorem d_F_alike_1 : decode y_F_alike.2.1 1 = .ok (.iload_n 3, 1) := by decide +kernel
theorem d_F_alike_2 : decode y_F_alike.2.1 2 = .ok (.invokevirtual 143, 3) := by decide +kernel
theorem d_F_alike_5 : decode y_F_alike.2.1 5 = .ok (.aload_n 0, 1) := by decide +kernel
theorem d_F_alike_6 : decode y_F_alike.2.1 6 = .ok (.iload 4, 2) := by decide +kernel
theorem d_F_alike_8 : decode y_F_alike.2.1 8 = .ok (.invokevirtual 143, 3) := by decide +kernel
theorem d_F_alike_11 : decode y_F_alike.2.1 11 = .ok (.iload_n 1, 1) := by decide +kernel
theorem d_F_alike_12 : decode y_F_alike.2.1 12 = .ok (.invokestatic 125, 3) := by decide +kernel
theorem d_F_alike_15 : decode y_F_alike.2.1 15 = .ok (.iload_n 2, 1) := by decide +kernel
theorem d_F_alike_16 : decode y_F_alike.2.1 16 = .ok (.invokestatic 110, 3) := by decide +kernel
theorem d_F_alike_19 : decode y_F_alike.2.1 19 = .ok (.aload_n 0, 1) := by decide +kernel
theorem d_F_alike_20 : decode y_F_alike.2.1 20 = .ok (.getfield 46, 3) := by decide +kernel
theorem d_F_alike_23 : decode y_F_alike.2.1 23 = .ok (.iload_n 1, 1) := by decide +kernel
theorem d_F_alike_24 : decode y_F_alike.2.1 24 = .ok (.invokevirtual 216, 3) := by decide +kernel
theorem d_F_alike_27 : decode y_F_alike.2.1 27 = .ok (.aload_n 0, 1) := by decide +kernel
theorem d_F_alike_28 : decode y_F_alike.2.1 28 = .ok (.getfield 46, 3) := by decide +kernel
theorem d_F_alike_31 : decode y_F_alike.2.1 31 = .ok (.iload_n 3, 1) := by decide +kernel
theorem d_F_alike_32 : decode y_F_alike.2.1 32 = .ok (.iload 4, 2) := by decide +kernel
theorem d_F_alike_34 : decode y_F_alike.2.1 34 = .ok (.iload_n 2, 1) := by decide +kernel
theorem d_F_alike_35 : decode y_F_alike.2.1 35 = .ok (.invokevirtual 219, 3) := by decide +kernel
theorem d_F_alike_38 : decode y_F_alike.2.1 38 = .ok (.ireturn, 1) := by decide +kernel
theorem d_F_regret_0 : decode y_F_regret.2.1 0 = .ok (.aload_n 0, 1) := by decide +kernel
theorem d_F_regret_1 : decode y_F_regret.2.1 1 = .ok (.iload 4, 2) := by decide +kernel
theorem d_F_regret_3 : decode y_F_regret.2.1 3 = .ok (.invokevirtual 143, 3) := by decide +kernel
theorem d_F_regret_6 : decode y_F_regret.2.1 6 = .ok (.iload_n 1, 1) := by decide +kernel
theorem d_F_regret_7 : decode y_F_regret.2.1 7 = .ok (.iload_n 2, 1) := by decide +kernel
theorem d_F_regret_8 : decode y_F_regret.2.1 8 = .ok (.iload_n 3, 1) := by decide +kernel
theorem d_F_regret_9 : decode y_F_regret.2.1 9 = .ok (.invokestatic 146, 3) := by decide +kernel
theorem d_F_regret_12 : decode y_F_regret.2.1 12 = .ok (.iload 5, 2) := by decide +kernel
theorem d_F_regret_14 : decode y_F_regret.2.1 14 = .ok (.invokestatic 110, 3) := by decide +kernel
theorem d_F_regret_17 : decode y_F_regret.2.1 17 = .ok (.aload_n 0, 1) := by decide +kernel
theorem d_F_regret_18 : decode y_F_regret.2.1 18 = .ok (.getfield 55, 3) := by decide +kernel
theorem d_F_regret_21 : decode y_F_regret.2.1 21 = .ok (.iload_n 1, 1) := by decide +kernel
theorem d_F_regret_22 : decode y_F_regret.2.1 22 = .ok (.iload_n 2, 1) := by decide +kernel
theorem d_F_regret_23 : decode y_F_regret.2.1 23 = .ok (.iload_n 3, 1) := by decide +kernel
theorem d_F_regret_24 : decode y_F_regret.2.1 24 = .ok (.iload 4, 2) := by decide +kernel
theorem d_F_regret_26 : decode y_F_regret.2.1 26 = .ok (.iload 5, 2) := by decide +kernel
theorem d_F_regret_28 : decode y_F_regret.2.1 28 = .ok (.invokevirtual 223, 3) := by decide +kernel
theorem d_F_regret_31 : decode y_F_regret.2.1 31 = .ok (.ireturn, 1) := by decide +kernel
theorem d_F_turn_0 : decode y_F_turn.2.1 0 = .ok (.aload_n 0, 1) := by decide +kernel
theorem d_F_turn_1 : decode y_F_turn.2.1 1 = .ok (.invokevirtual 226, 3) := by decide +kernel
theorem d_F_turn_4 : decode y_F_turn.2.1 4 = .ok (.iload_n 1, 1) := by decide +kernel
theorem d_F_turn_5 : decode y_F_turn.2.1 5 = .ok (.invokestatic 125, 3) := by decide +kernel
theorem d_F_turn_8 : decode y_F_turn.2.1 8 = .ok (.iload_n 2, 1) := by decide +kernel
theorem d_F_turn_9 : decode y_F_turn.2.1 9 = .ok (.iconst 0, 1) := by decide +kernel
theorem d_F_turn_10 : decode y_F_turn.2.1 10 = .ok (.bipush 21, 2) := by decide +kernel
theorem d_F_turn_12 : decode y_F_turn.2.1 12 = .ok (.invokestatic 80, 3) := by decide +kernel
theorem d_F_turn_15 : decode y_F_turn.2.1 15 = .ok (.iload_n 3, 1) := by decide +kernel
theorem d_F_turn_16 : decode y_F_turn.2.1 16 = .ok (.invokestatic 110, 3) := by decide +kernel
theorem d_F_turn_19 : decode y_F_turn.2.1 19 = .ok (.aload_n 0, 1) := by decide +kernel
theorem d_F_turn_20 : decode y_F_turn.2.1 20 = .ok (.getfield 46, 3) := by decide +kernel
theorem d_F_turn_23 : decode y_F_turn.2.1 23 = .ok (.iload_n 1, 1) := by decide +kernel
theorem d_F_turn_24 : decode y_F_turn.2.1 24 = .ok (.invokevirtual 216, 3) := by decide +kernel
theorem d_F_turn_27 : decode y_F_turn.2.1 27 = .ok (.aload_n 0, 1) := by decide +kernel
theorem d_F_turn_28 : decode y_F_turn.2.1 28 = .ok (.getfield 55, 3) := by decide +kernel
theorem d_F_turn_31 : decode y_F_turn.2.1 31 = .ok (.iload_n 1, 1) := by decide +kernel
theorem d_F_turn_32 : decode y_F_turn.2.1 32 = .ok (.iload_n 2, 1) := by decide +kernel
theorem d_F_turn_33 : decode y_F_turn.2.1 33 = .ok (.iload_n 3, 1) := by decide +kernel
theorem d_F_turn_34 : decode y_F_turn.2.1 34 = .ok (.invokevirtual 229, 3) := by decide +kernel
theorem d_F_turn_37 : decode y_F_turn.2.1 37 = .ok (.aload_n 0, 1) := by decide +kernel
theorem d_F_turn_38 : decode y_F_turn.2.1 38 = .ok (.getfield 55, 3) := by decide +kernel
theorem d_F_turn_41 : decode y_F_turn.2.1 41 = .ok (.iload_n 2, 1) := by decide +kernel
theorem d_F_turn_42 : decode y_F_turn.2.1 42 = .ok (.invokevirtual 232, 3) := by decide +kernel
theorem d_F_turn_45 : decode y_F_turn.2.1 45 = .ok (.ireturn, 1) := by decide +kernel
theorem d_F_turnTo_0 : decode y_F_turnTo.2.1 0 = .ok (.aload_n 0, 1) := by decide +kernel
theorem d_F_turnTo_1 : decode y_F_turnTo.2.1 1 = .ok (.getfield 21, 3) := by decide +kernel
theorem d_F_turnTo_4 : decode y_F_turnTo.2.1 4 = .ok (.getfield 115, 3) := by decide +kernel
theorem d_F_turnTo_7 : decode y_F_turnTo.2.1 7 = .ok (.iload 4, 2) := by decide +kernel
theorem d_F_turnTo_9 : decode y_F_turnTo.2.1 9 = .ok (.invokestatic 92, 3) := by decide +kernel
theorem d_F_turnTo_12 : decode y_F_turnTo.2.1 12 = .ok (.iload_n 1, 1) := by decide +kernel
theorem d_F_turnTo_13 : decode y_F_turnTo.2.1 13 = .ok (.invokestatic 125, 3) := by decide +kernel
theorem d_F_turnTo_16 : decode y_F_turnTo.2.1 16 = .ok (.iload_n 2, 1) := by decide +kernel
theorem d_F_turnTo_17 : decode y_F_turnTo.2.1 17 = .ok (.iconst 0, 1) := by decide +kernel
theorem d_F_turnTo_18 : decode y_F_turnTo.2.1 18 = .ok (.bipush 21, 2) := by decide +kernel
theorem d_F_turnTo_20 : decode y_F_turnTo.2.1 20 = .ok (.invokestatic 80, 3) := by decide +kernel
theorem d_F_turnTo_23 : decode y_F_turnTo.2.1 23 = .ok (.iload_n 3, 1) := by decide +kernel
theorem d_F_turnTo_24 : decode y_F_turnTo.2.1 24 = .ok (.invokestatic 110, 3) := by decide +kernel
theorem d_F_turnTo_27 : decode y_F_turnTo.2.1 27 = .ok (.aload_n 0, 1) := by decide +kernel
theorem d_F_turnTo_28 : decode y_F_turnTo.2.1 28 = .ok (.getfield 46, 3) := by decide +kernel
theorem d_F_turnTo_31 : decode y_F_turnTo.2.1 31 = .ok (.iload_n 1, 1) := by decide +kernel
theorem d_F_turnTo_32 : decode y_F_turnTo.2.1 32 = .ok (.invokevirtual 216, 3) := by decide +kernel
theorem d_F_turnTo_35 : decode y_F_turnTo.2.1 35 = .ok (.aload_n 0, 1) := by decide +kernel
theorem d_F_turnTo_36 : decode y_F_turnTo.2.1 36 = .ok (.getfield 55, 3) := by decide +kernel
theorem d_F_turnTo_39 : decode y_F_turnTo.2.1 39 = .ok (.iload_n 1, 1) := by decide +kernel
theorem d_F_turnTo_40 : decode y_F_turnTo.2.1 40 = .ok (.iload_n 2, 1) := by decide +kernel
theorem d_F_turnTo_41 : decode y_F_turnTo.2.1 41 = .ok (.iload_n 3, 1) := by decide +kernel
theorem d_F_turnTo_42 : decode y_F_turnTo.2.1 42 = .ok (.invokevirtual 229, 3) := by decide +kernel
theorem d_F_turnTo_45 : decode y_F_turnTo.2.1 45 = .ok (.aload_n 0, 1) := by decide +kernel
theorem d_F_turnTo_46 : decode y_F_turnTo.2.1 46 = .ok (.getfield 55, 3) := by decide +kernel
theorem d_F_turnTo_49 : decode y_F_turnTo.2.1 49 = .ok (.iload 4, 2) := by decide +kernel
theorem d_F_turnTo_51 : decode y_F_turnTo.2.1 51 = .ok (.iload_n 2, 1) := by decide +kernel
theorem d_F_turnTo_52 : decode y_F_turnTo.2.1 52 = .ok (.invokevirtual 235, 3) := by decide +kernel
theorem d_F_turnTo_55 : decode y_F_turnTo.2.1 55 = .ok (.ireturn, 1) := by decide +kernel
theorem d_F_best_0 : decode y_F_best.2.1 0 = .ok (.aload_n 0, 1) := by decide +kernel
theorem d_F_best_1 : decode y_F_best.2.1 1 = .ok (.invokevirtual 226, 3) := by decide +kernel
theorem d_F_best_4 : decode y_F_best.2.1 4 = .ok (.iload_n 1, 1) := by decide +kernel
theorem d_F_best_5 : decode y_F_best.2.1 5 = .ok (.iconst 0, 1) := by decide +kernel
theorem d_F_best_6 : decode y_F_best.2.1 6 = .ok (.bipush 21, 2) := by decide +kernel
theorem d_F_best_8 : decode y_F_best.2.1 8 = .ok (.invokestatic 80, 3) := by decide +kernel
theorem d_F_best_11 : decode y_F_best.2.1 11 = .ok (.iload_n 2, 1) := by decide +kernel
theorem d_F_best_12 : decode y_F_best.2.1 12 = .ok (.invokestatic 110, 3) := by decide +kernel
theorem d_F_best_15 : decode y_F_best.2.1 15 = .ok (.iconst 0, 1) := by decide +kernel
theorem d_F_best_16 : decode y_F_best.2.1 16 = .ok (.istore_n 3, 1) := by decide +kernel
theorem d_F_best_17 : decode y_F_best.2.1 17 = .ok (.ldc 118, 2) := by decide +kernel
theorem d_F_best_19 : decode y_F_best.2.1 19 = .ok (.istore 4, 2) := by decide +kernel
theorem d_F_best_21 : decode y_F_best.2.1 21 = .ok (.iconst 0, 1) := by decide +kernel
theorem d_F_best_22 : decode y_F_best.2.1 22 = .ok (.istore 5, 2) := by decide +kernel
theorem d_F_best_24 : decode y_F_best.2.1 24 = .ok (.iload 5, 2) := by decide +kernel
theorem d_F_best_26 : decode y_F_best.2.1 26 = .ok (.iconst 4, 1) := by decide +kernel
theorem d_F_best_27 : decode y_F_best.2.1 27 = .ok (.if_icmp .ge 53, 3) := by decide +kernel
theorem d_F_best_30 : decode y_F_best.2.1 30 = .ok (.aload_n 0, 1) := by decide +kernel
theorem d_F_best_31 : decode y_F_best.2.1 31 = .ok (.getfield 46, 3) := by decide +kernel
theorem d_F_best_34 : decode y_F_best.2.1 34 = .ok (.iload 5, 2) := by decide +kernel
theorem d_F_best_36 : decode y_F_best.2.1 36 = .ok (.invokevirtual 216, 3) := by decide +kernel
theorem d_F_best_39 : decode y_F_best.2.1 39 = .ok (.aload_n 0, 1) := by decide +kernel
theorem d_F_best_40 : decode y_F_best.2.1 40 = .ok (.getfield 55, 3) := by decide +kernel
theorem d_F_best_43 : decode y_F_best.2.1 43 = .ok (.iload 5, 2) := by decide +kernel
theorem d_F_best_45 : decode y_F_best.2.1 45 = .ok (.iload_n 1, 1) := by decide +kernel
theorem d_F_best_46 : decode y_F_best.2.1 46 = .ok (.iload_n 2, 1) := by decide +kernel
theorem d_F_best_47 : decode y_F_best.2.1 47 = .ok (.invokevirtual 229, 3) := by decide +kernel
theorem d_F_best_50 : decode y_F_best.2.1 50 = .ok (.aload_n 0, 1) := by decide +kernel
theorem d_F_best_51 : decode y_F_best.2.1 51 = .ok (.getfield 55, 3) := by decide +kernel
theorem d_F_best_54 : decode y_F_best.2.1 54 = .ok (.iload_n 1, 1) := by decide +kernel
theorem d_F_best_55 : decode y_F_best.2.1 55 = .ok (.invokevirtual 232, 3) := by decide +kernel
theorem d_F_best_58 : decode y_F_best.2.1 58 = .ok (.istore 6, 2) := by decide +kernel
theorem d_F_best_60 : decode y_F_best.2.1 60 = .ok (.iload 6, 2) := by decide +kernel
theorem d_F_best_62 : decode y_F_best.2.1 62 = .ok (.iload 4, 2) := by decide +kernel
theorem d_F_best_64 : decode y_F_best.2.1 64 = .ok (.if_icmp .ge 10, 3) := by decide +kernel
theorem d_F_best_67 : decode y_F_best.2.1 67 = .ok (.iload 5, 2) := by decide +kernel
theorem d_F_best_69 : decode y_F_best.2.1 69 = .ok (.istore_n 3, 1) := by decide +kernel
theorem d_F_best_70 : decode y_F_best.2.1 70 = .ok (.iload 6, 2) := by decide +kernel
theorem d_F_best_72 : decode y_F_best.2.1 72 = .ok (.istore 4, 2) := by decide +kernel
theorem d_F_best_74 : decode y_F_best.2.1 74 = .ok (.iinc 5 1, 3) := by decide +kernel
theorem d_F_best_77 : decode y_F_best.2.1 77 = .ok (.goto (-53), 3) := by decide +kernel
theorem d_F_best_80 : decode y_F_best.2.1 80 = .ok (.iload_n 3, 1) := by decide +kernel
theorem d_F_best_81 : decode y_F_best.2.1 81 = .ok (.ireturn, 1) := by decide +kernel
theorem d_F_reach_0 : decode y_F_reach.2.1 0 = .ok (.aload_n 0, 1) := by decide +kernel
theorem d_F_reach_1 : decode y_F_reach.2.1 1 = .ok (.iload 4, 2) := by decide +kernel
theorem d_F_reach_3 : decode y_F_reach.2.1 3 = .ok (.invokevirtual 143, 3) := by decide +kernel
theorem d_F_reach_6 : decode y_F_reach.2.1 6 = .ok (.aload_n 0, 1) := by decide +kernel
theorem d_F_reach_7 : decode y_F_reach.2.1 7 = .ok (.getfield 21, 3) := by decide +kernel
theorem d_F_reach_10 : decode y_F_reach.2.1 10 = .ok (.getfield 84, 3) := by decide +kernel
theorem d_F_reach_13 : decode y_F_reach.2.1 13 = .ok (.iload 5, 2) := by decide +kernel
theorem d_F_reach_15 : decode y_F_reach.2.1 15 = .ok (.invokestatic 92, 3) := by decide +kernel
theorem d_F_reach_18 : decode y_F_reach.2.1 18 = .ok (.iload_n 1, 1) := by decide +kernel
theorem d_F_reach_19 : decode y_F_reach.2.1 19 = .ok (.iload_n 2, 1) := by decide +kernel
theorem d_F_reach_20 : decode y_F_reach.2.1 20 = .ok (.iload_n 3, 1) := by decide +kernel
theorem d_F_reach_21 : decode y_F_reach.2.1 21 = .ok (.invokestatic 146, 3) := by decide +kernel
theorem d_F_reach_24 : decode y_F_reach.2.1 24 = .ok (.iload 6, 2) := by decide +kernel
theorem d_F_reach_26 : decode y_F_reach.2.1 26 = .ok (.iconst 0, 1) := by decide +kernel
theorem d_F_reach_27 : decode y_F_reach.2.1 27 = .ok (.sipush 200, 3) := by decide +kernel
theorem d_F_reach_30 : decode y_F_reach.2.1 30 = .ok (.invokestatic 80, 3) := by decide +kernel
theorem d_F_reach_33 : decode y_F_reach.2.1 33 = .ok (.aload_n 0, 1) := by decide +kernel
theorem d_F_reach_34 : decode y_F_reach.2.1 34 = .ok (.getfield 30, 3) := by decide +kernel
theorem d_F_reach_37 : decode y_F_reach.2.1 37 = .ok (.iload_n 1, 1) := by decide +kernel
theorem d_F_reach_38 : decode y_F_reach.2.1 38 = .ok (.iload_n 2, 1) := by decide +kernel
theorem d_F_reach_39 : decode y_F_reach.2.1 39 = .ok (.iload_n 3, 1) := by decide +kernel
theorem d_F_reach_40 : decode y_F_reach.2.1 40 = .ok (.iload 4, 2) := by decide +kernel
theorem d_F_reach_42 : decode y_F_reach.2.1 42 = .ok (.invokevirtual 149, 3) := by decide +kernel
theorem d_F_reach_45 : decode y_F_reach.2.1 45 = .ok (.aload_n 0, 1) := by decide +kernel
theorem d_F_reach_46 : decode y_F_reach.2.1 46 = .ok (.getfield 62, 3) := by decide +kernel
theorem d_F_reach_49 : decode y_F_reach.2.1 49 = .ok (.iload 5, 2) := by decide +kernel
theorem d_F_reach_51 : decode y_F_reach.2.1 51 = .ok (.iload 6, 2) := by decide +kernel
theorem d_F_reach_53 : decode y_F_reach.2.1 53 = .ok (.invokevirtual 238, 3) := by decide +kernel
theorem d_F_reach_56 : decode y_F_reach.2.1 56 = .ok (.ireturn, 1) := by decide +kernel
theorem d_F_drill_0 : decode y_F_drill.2.1 0 = .ok (.iload_n 1, 1) := by decide +kernel
theorem d_F_drill_1 : decode y_F_drill.2.1 1 = .ok (.invokestatic 110, 3) := by decide +kernel
theorem d_F_drill_4 : decode y_F_drill.2.1 4 = .ok (.iload_n 2, 1) := by decide +kernel
theorem d_F_drill_5 : decode y_F_drill.2.1 5 = .ok (.iconst 0, 1) := by decide +kernel
theorem d_F_drill_6 : decode y_F_drill.2.1 6 = .ok (.sipush 600, 3) := by decide +kernel
theorem d_F_drill_9 : decode y_F_drill.2.1 9 = .ok (.invokestatic 80, 3) := by decide +kernel
theorem d_F_drill_12 : decode y_F_drill.2.1 12 = .ok (.aload_n 0, 1) := by decide +kernel
theorem d_F_drill_13 : decode y_F_drill.2.1 13 = .ok (.getfield 21, 3) := by decide +kernel
theorem d_F_drill_16 : decode y_F_drill.2.1 16 = .ok (.aload_n 0, 1) := by decide +kernel
theorem d_F_drill_17 : decode y_F_drill.2.1 17 = .ok (.getfield 21, 3) := by decide +kernel
theorem d_F_drill_20 : decode y_F_drill.2.1 20 = .ok (.getfield 241, 3) := by decide +kernel
theorem d_F_drill_23 : decode y_F_drill.2.1 23 = .ok (.iload_n 1, 1) := by decide +kernel
theorem d_F_drill_24 : decode y_F_drill.2.1 24 = .ok (.iload_n 2, 1) := by decide +kernel
theorem d_F_drill_25 : decode y_F_drill.2.1 25 = .ok (.iconst 0, 1) := by decide +kernel
theorem d_F_drill_26 : decode y_F_drill.2.1 26 = .ok (.iconst 0, 1) := by decide +kernel
theorem d_F_drill_27 : decode y_F_drill.2.1 27 = .ok (.iconst 0, 1) := by decide +kernel
theorem d_F_drill_28 : decode y_F_drill.2.1 28 = .ok (.iconst 0, 1) := by decide +kernel
theorem d_F_drill_29 : decode y_F_drill.2.1 29 = .ok (.invokevirtual 88, 3) := by decide +kernel
theorem d_F_drill_32 : decode y_F_drill.2.1 32 = .ok (.ireturn, 1) := by decide +kernel
theorem d_F_fit_0 : decode y_F_fit.2.1 0 = .ok (.aload_n 0, 1) := by decide +kernel
theorem d_F_fit_1 : decode y_F_fit.2.1 1 = .ok (.getfield 30, 3) := by decide +kernel
theorem d_F_fit_4 : decode y_F_fit.2.1 4 = .ok (.iconst 0, 1) := by decide +kernel
theorem d_F_fit_5 : decode y_F_fit.2.1 5 = .ok (.iconst 0, 1) := by decide +kernel
theorem d_F_fit_6 : decode y_F_fit.2.1 6 = .ok (.iconst 0, 1) := by decide +kernel
theorem d_F_fit_7 : decode y_F_fit.2.1 7 = .ok (.iconst (-1), 1) := by decide +kernel
theorem d_F_fit_8 : decode y_F_fit.2.1 8 = .ok (.invokevirtual 149, 3) := by decide +kernel
theorem d_F_fit_11 : decode y_F_fit.2.1 11 = .ok (.iconst 0, 1) := by decide +kernel
theorem d_F_fit_12 : decode y_F_fit.2.1 12 = .ok (.istore_n 1, 1) := by decide +kernel
theorem d_F_fit_13 : decode y_F_fit.2.1 13 = .ok (.iconst 1, 1) := by decide +kernel
theorem d_F_fit_14 : decode y_F_fit.2.1 14 = .ok (.istore_n 2, 1) := by decide +kernel
theorem d_F_fit_15 : decode y_F_fit.2.1 15 = .ok (.iload_n 2, 1) := by decide +kernel
theorem d_F_fit_16 : decode y_F_fit.2.1 16 = .ok (.iconst 3, 1) := by decide +kernel
theorem d_F_fit_17 : decode y_F_fit.2.1 17 = .ok (.if_icmp .gt 28, 3) := by decide +kernel
theorem d_F_fit_20 : decode y_F_fit.2.1 20 = .ok (.aload_n 0, 1) := by decide +kernel
theorem d_F_fit_21 : decode y_F_fit.2.1 21 = .ok (.getfield 39, 3) := by decide +kernel
theorem d_F_fit_24 : decode y_F_fit.2.1 24 = .ok (.iload_n 2, 1) := by decide +kernel
theorem d_F_fit_25 : decode y_F_fit.2.1 25 = .ok (.invokevirtual 244, 3) := by decide +kernel
theorem d_F_fit_28 : decode y_F_fit.2.1 28 = .ok (.ifCond .eq 11, 3) := by decide +kernel
theorem d_F_fit_31 : decode y_F_fit.2.1 31 = .ok (.iload_n 1, 1) := by decide +kernel
theorem d_F_fit_32 : decode y_F_fit.2.1 32 = .ok (.iconst 1, 1) := by decide +kernel
theorem d_F_fit_33 : decode y_F_fit.2.1 33 = .ok (.iload_n 2, 1) := by decide +kernel
theorem d_F_fit_34 : decode y_F_fit.2.1 34 = .ok (.iconst 1, 1) := by decide +kernel
theorem d_F_fit_35 : decode y_F_fit.2.1 35 = .ok (.isub, 1) := by decide +kernel
theorem d_F_fit_36 : decode y_F_fit.2.1 36 = .ok (.ishl, 1) := by decide +kernel
theorem d_F_fit_37 : decode y_F_fit.2.1 37 = .ok (.ior, 1) := by decide +kernel
theorem d_F_fit_38 : decode y_F_fit.2.1 38 = .ok (.istore_n 1, 1) := by decide +kernel
theorem d_F_fit_39 : decode y_F_fit.2.1 39 = .ok (.iinc 2 1, 3) := by decide +kernel
theorem d_F_fit_42 : decode y_F_fit.2.1 42 = .ok (.goto (-27), 3) := by decide +kernel
theorem d_F_fit_45 : decode y_F_fit.2.1 45 = .ok (.iload_n 1, 1) := by decide +kernel
theorem d_F_fit_46 : decode y_F_fit.2.1 46 = .ok (.ireturn, 1) := by decide +kernel
theorem d_F_dose_0 : decode y_F_dose.2.1 0 = .ok (.aload_n 0, 1) := by decide +kernel
theorem d_F_dose_1 : decode y_F_dose.2.1 1 = .ok (.iload 4, 2) := by decide +kernel
theorem d_F_dose_3 : decode y_F_dose.2.1 3 = .ok (.iload 5, 2) := by decide +kernel
theorem d_F_dose_5 : decode y_F_dose.2.1 5 = .ok (.invokevirtual 248, 3) := by decide +kernel
theorem d_F_dose_8 : decode y_F_dose.2.1 8 = .ok (.iload_n 1, 1) := by decide +kernel
theorem d_F_dose_9 : decode y_F_dose.2.1 9 = .ok (.iload_n 2, 1) := by decide +kernel
theorem d_F_dose_10 : decode y_F_dose.2.1 10 = .ok (.iload_n 3, 1) := by decide +kernel
theorem d_F_dose_11 : decode y_F_dose.2.1 11 = .ok (.invokestatic 146, 3) := by decide +kernel
theorem d_F_dose_14 : decode y_F_dose.2.1 14 = .ok (.iload 6, 2) := by decide +kernel
theorem d_F_dose_16 : decode y_F_dose.2.1 16 = .ok (.invokestatic 110, 3) := by decide +kernel
theorem d_F_dose_19 : decode y_F_dose.2.1 19 = .ok (.aload_n 0, 1) := by decide +kernel
theorem d_F_dose_20 : decode y_F_dose.2.1 20 = .ok (.getfield 30, 3) := by decide +kernel
theorem d_F_dose_23 : decode y_F_dose.2.1 23 = .ok (.iload_n 1, 1) := by decide +kernel
theorem d_F_dose_24 : decode y_F_dose.2.1 24 = .ok (.iload_n 2, 1) := by decide +kernel
theorem d_F_dose_25 : decode y_F_dose.2.1 25 = .ok (.iload_n 3, 1) := by decide +kernel
theorem d_F_dose_26 : decode y_F_dose.2.1 26 = .ok (.iload 4, 2) := by decide +kernel
theorem d_F_dose_28 : decode y_F_dose.2.1 28 = .ok (.invokevirtual 149, 3) := by decide +kernel
theorem d_F_dose_31 : decode y_F_dose.2.1 31 = .ok (.aload_n 0, 1) := by decide +kernel
theorem d_F_dose_32 : decode y_F_dose.2.1 32 = .ok (.getfield 69, 3) := by decide +kernel
theorem d_F_dose_35 : decode y_F_dose.2.1 35 = .ok (.invokevirtual 251, 3) := by decide +kernel
theorem d_F_dose_38 : decode y_F_dose.2.1 38 = .ok (.aload_n 0, 1) := by decide +kernel
theorem d_F_dose_39 : decode y_F_dose.2.1 39 = .ok (.getfield 69, 3) := by decide +kernel
theorem d_F_dose_42 : decode y_F_dose.2.1 42 = .ok (.iload 5, 2) := by decide +kernel
theorem d_F_dose_44 : decode y_F_dose.2.1 44 = .ok (.iload 6, 2) := by decide +kernel
theorem d_F_dose_46 : decode y_F_dose.2.1 46 = .ok (.invokevirtual 253, 3) := by decide +kernel
theorem d_F_dose_49 : decode y_F_dose.2.1 49 = .ok (.i2l, 1) := by decide +kernel
theorem d_F_dose_50 : decode y_F_dose.2.1 50 = .ok (.lreturn, 1) := by decide +kernel
theorem d_F_outAt_0 : decode y_F_outAt.2.1 0 = .ok (.aload_n 0, 1) := by decide +kernel
theorem d_F_outAt_1 : decode y_F_outAt.2.1 1 = .ok (.iload 4, 2) := by decide +kernel
theorem d_F_outAt_3 : decode y_F_outAt.2.1 3 = .ok (.iload 5, 2) := by decide +kernel
theorem d_F_outAt_5 : decode y_F_outAt.2.1 5 = .ok (.invokevirtual 248, 3) := by decide +kernel
theorem d_F_outAt_8 : decode y_F_outAt.2.1 8 = .ok (.iload_n 1, 1) := by decide +kernel
theorem d_F_outAt_9 : decode y_F_outAt.2.1 9 = .ok (.iload_n 2, 1) := by decide +kernel
theorem d_F_outAt_10 : decode y_F_outAt.2.1 10 = .ok (.iload_n 3, 1) := by decide +kernel
theorem d_F_outAt_11 : decode y_F_outAt.2.1 11 = .ok (.invokestatic 146, 3) := by decide +kernel
theorem d_F_outAt_14 : decode y_F_outAt.2.1 14 = .ok (.iload 6, 2) := by decide +kernel
theorem d_F_outAt_16 : decode y_F_outAt.2.1 16 = .ok (.invokestatic 110, 3) := by decide +kernel
theorem d_F_outAt_19 : decode y_F_outAt.2.1 19 = .ok (.aload_n 0, 1) := by decide +kernel
theorem d_F_outAt_20 : decode y_F_outAt.2.1 20 = .ok (.getfield 30, 3) := by decide +kernel
theorem d_F_outAt_23 : decode y_F_outAt.2.1 23 = .ok (.iload_n 1, 1) := by decide +kernel
theorem d_F_outAt_24 : decode y_F_outAt.2.1 24 = .ok (.iload_n 2, 1) := by decide +kernel
theorem d_F_outAt_25 : decode y_F_outAt.2.1 25 = .ok (.iload_n 3, 1) := by decide +kernel
theorem d_F_outAt_26 : decode y_F_outAt.2.1 26 = .ok (.iload 4, 2) := by decide +kernel
theorem d_F_outAt_28 : decode y_F_outAt.2.1 28 = .ok (.invokevirtual 149, 3) := by decide +kernel
theorem d_F_outAt_31 : decode y_F_outAt.2.1 31 = .ok (.aload_n 0, 1) := by decide +kernel
theorem d_F_outAt_32 : decode y_F_outAt.2.1 32 = .ok (.getfield 69, 3) := by decide +kernel
theorem d_F_outAt_35 : decode y_F_outAt.2.1 35 = .ok (.invokevirtual 251, 3) := by decide +kernel
theorem d_F_outAt_38 : decode y_F_outAt.2.1 38 = .ok (.aload_n 0, 1) := by decide +kernel
theorem d_F_outAt_39 : decode y_F_outAt.2.1 39 = .ok (.getfield 69, 3) := by decide +kernel
theorem d_F_outAt_42 : decode y_F_outAt.2.1 42 = .ok (.iload 5, 2) := by decide +kernel
theorem d_F_outAt_44 : decode y_F_outAt.2.1 44 = .ok (.iload 6, 2) := by decide +kernel
theorem d_F_outAt_46 : decode y_F_outAt.2.1 46 = .ok (.invokevirtual 256, 3) := by decide +kernel
theorem d_F_outAt_49 : decode y_F_outAt.2.1 49 = .ok (.ireturn, 1) := by decide +kernel
theorem d_F_whereAt_0 : decode y_F_whereAt.2.1 0 = .ok (.aload_n 0, 1) := by decide +kernel
theorem d_F_whereAt_1 : decode y_F_whereAt.2.1 1 = .ok (.iload 4, 2) := by decide +kernel
theorem d_F_whereAt_3 : decode y_F_whereAt.2.1 3 = .ok (.iload 5, 2) := by decide +kernel
theorem d_F_whereAt_5 : decode y_F_whereAt.2.1 5 = .ok (.invokevirtual 248, 3) := by decide +kernel
theorem d_F_whereAt_8 : decode y_F_whereAt.2.1 8 = .ok (.iload_n 1, 1) := by decide +kernel
theorem d_F_whereAt_9 : decode y_F_whereAt.2.1 9 = .ok (.iload_n 2, 1) := by decide +kernel
theorem d_F_whereAt_10 : decode y_F_whereAt.2.1 10 = .ok (.iload_n 3, 1) := by decide +kernel
theorem d_F_whereAt_11 : decode y_F_whereAt.2.1 11 = .ok (.invokestatic 146, 3) := by decide +kernel
theorem d_F_whereAt_14 : decode y_F_whereAt.2.1 14 = .ok (.iload 6, 2) := by decide +kernel
theorem d_F_whereAt_16 : decode y_F_whereAt.2.1 16 = .ok (.invokestatic 110, 3) := by decide +kernel
theorem d_F_whereAt_19 : decode y_F_whereAt.2.1 19 = .ok (.iload 7, 2) := by decide +kernel
theorem d_F_whereAt_21 : decode y_F_whereAt.2.1 21 = .ok (.invokestatic 110, 3) := by decide +kernel
theorem d_F_whereAt_24 : decode y_F_whereAt.2.1 24 = .ok (.aload_n 0, 1) := by decide +kernel
theorem d_F_whereAt_25 : decode y_F_whereAt.2.1 25 = .ok (.getfield 30, 3) := by decide +kernel
theorem d_F_whereAt_28 : decode y_F_whereAt.2.1 28 = .ok (.iload_n 1, 1) := by decide +kernel
theorem d_F_whereAt_29 : decode y_F_whereAt.2.1 29 = .ok (.iload_n 2, 1) := by decide +kernel
theorem d_F_whereAt_30 : decode y_F_whereAt.2.1 30 = .ok (.iload_n 3, 1) := by decide +kernel
theorem d_F_whereAt_31 : decode y_F_whereAt.2.1 31 = .ok (.iload 4, 2) := by decide +kernel
theorem d_F_whereAt_33 : decode y_F_whereAt.2.1 33 = .ok (.invokevirtual 149, 3) := by decide +kernel
theorem d_F_whereAt_36 : decode y_F_whereAt.2.1 36 = .ok (.aload_n 0, 1) := by decide +kernel
theorem d_F_whereAt_37 : decode y_F_whereAt.2.1 37 = .ok (.getfield 69, 3) := by decide +kernel
theorem d_F_whereAt_40 : decode y_F_whereAt.2.1 40 = .ok (.invokevirtual 251, 3) := by decide +kernel
theorem d_F_whereAt_43 : decode y_F_whereAt.2.1 43 = .ok (.aload_n 0, 1) := by decide +kernel
theorem d_F_whereAt_44 : decode y_F_whereAt.2.1 44 = .ok (.getfield 69, 3) := by decide +kernel
theorem d_F_whereAt_47 : decode y_F_whereAt.2.1 47 = .ok (.iload 5, 2) := by decide +kernel
theorem d_F_whereAt_49 : decode y_F_whereAt.2.1 49 = .ok (.iload 6, 2) := by decide +kernel
theorem d_F_whereAt_51 : decode y_F_whereAt.2.1 51 = .ok (.iload 7, 2) := by decide +kernel
theorem d_F_whereAt_53 : decode y_F_whereAt.2.1 53 = .ok (.invokevirtual 259, 3) := by decide +kernel
theorem d_F_whereAt_56 : decode y_F_whereAt.2.1 56 = .ok (.ireturn, 1) := by decide +kernel
theorem d_F_reading_0 : decode y_F_reading.2.1 0 = .ok (.aload_n 0, 1) := by decide +kernel
theorem d_F_reading_1 : decode y_F_reading.2.1 1 = .ok (.getfield 21, 3) := by decide +kernel
theorem d_F_reading_4 : decode y_F_reading.2.1 4 = .ok (.getfield 84, 3) := by decide +kernel
theorem d_F_reading_7 : decode y_F_reading.2.1 7 = .ok (.iload_n 1, 1) := by decide +kernel
theorem d_F_reading_8 : decode y_F_reading.2.1 8 = .ok (.invokestatic 92, 3) := by decide +kernel
theorem d_F_reading_11 : decode y_F_reading.2.1 11 = .ok (.iload_n 2, 1) := by decide +kernel
theorem d_F_reading_12 : decode y_F_reading.2.1 12 = .ok (.invokestatic 110, 3) := by decide +kernel
theorem d_F_reading_15 : decode y_F_reading.2.1 15 = .ok (.aload_n 0, 1) := by decide +kernel
theorem d_F_reading_16 : decode y_F_reading.2.1 16 = .ok (.getfield 21, 3) := by decide +kernel
theorem d_F_reading_19 : decode y_F_reading.2.1 19 = .ok (.aload_n 0, 1) := by decide +kernel
theorem d_F_reading_20 : decode y_F_reading.2.1 20 = .ok (.getfield 21, 3) := by decide +kernel
theorem d_F_reading_23 : decode y_F_reading.2.1 23 = .ok (.getfield 262, 3) := by decide +kernel
theorem d_F_reading_26 : decode y_F_reading.2.1 26 = .ok (.iload_n 1, 1) := by decide +kernel
theorem d_F_reading_27 : decode y_F_reading.2.1 27 = .ok (.iload_n 2, 1) := by decide +kernel
theorem d_F_reading_28 : decode y_F_reading.2.1 28 = .ok (.iload_n 3, 1) := by decide +kernel
theorem d_F_reading_29 : decode y_F_reading.2.1 29 = .ok (.ifCond .eq 7, 3) := by decide +kernel
theorem d_F_reading_32 : decode y_F_reading.2.1 32 = .ok (.iconst 1, 1) := by decide +kernel
theorem d_F_reading_33 : decode y_F_reading.2.1 33 = .ok (.goto 4, 3) := by decide +kernel
theorem d_F_reading_36 : decode y_F_reading.2.1 36 = .ok (.iconst 0, 1) := by decide +kernel
theorem d_F_reading_37 : decode y_F_reading.2.1 37 = .ok (.iconst 0, 1) := by decide +kernel
theorem d_F_reading_38 : decode y_F_reading.2.1 38 = .ok (.iconst 0, 1) := by decide +kernel
theorem d_F_reading_39 : decode y_F_reading.2.1 39 = .ok (.iconst 0, 1) := by decide +kernel
theorem d_F_reading_40 : decode y_F_reading.2.1 40 = .ok (.invokevirtual 88, 3) := by decide +kernel
theorem d_F_reading_43 : decode y_F_reading.2.1 43 = .ok (.ireturn, 1) := by decide +kernel
theorem d_F_fits_0 : decode y_F_fits.2.1 0 = .ok (.iload_n 1, 1) := by decide +kernel
theorem d_F_fits_1 : decode y_F_fits.2.1 1 = .ok (.invokestatic 125, 3) := by decide +kernel
theorem d_F_fits_4 : decode y_F_fits.2.1 4 = .ok (.aload_n 0, 1) := by decide +kernel
theorem d_F_fits_5 : decode y_F_fits.2.1 5 = .ok (.getfield 46, 3) := by decide +kernel
theorem d_F_fits_8 : decode y_F_fits.2.1 8 = .ok (.iload_n 1, 1) := by decide +kernel
theorem d_F_fits_9 : decode y_F_fits.2.1 9 = .ok (.invokevirtual 216, 3) := by decide +kernel
theorem d_F_fits_12 : decode y_F_fits.2.1 12 = .ok (.aload_n 0, 1) := by decide +kernel
theorem d_F_fits_13 : decode y_F_fits.2.1 13 = .ok (.getfield 46, 3) := by decide +kernel
theorem d_F_fits_16 : decode y_F_fits.2.1 16 = .ok (.invokevirtual 265, 3) := by decide +kernel
theorem d_F_fits_19 : decode y_F_fits.2.1 19 = .ok (.ireturn, 1) := by decide +kernel
theorem d_F_next_0 : decode y_F_next.2.1 0 = .ok (.iload_n 1, 1) := by decide +kernel
theorem d_F_next_1 : decode y_F_next.2.1 1 = .ok (.invokestatic 125, 3) := by decide +kernel
theorem d_F_next_4 : decode y_F_next.2.1 4 = .ok (.aload_n 0, 1) := by decide +kernel
theorem d_F_next_5 : decode y_F_next.2.1 5 = .ok (.getfield 46, 3) := by decide +kernel
theorem d_F_next_8 : decode y_F_next.2.1 8 = .ok (.iload_n 1, 1) := by decide +kernel
theorem d_F_next_9 : decode y_F_next.2.1 9 = .ok (.invokevirtual 216, 3) := by decide +kernel
theorem d_F_next_12 : decode y_F_next.2.1 12 = .ok (.aload_n 0, 1) := by decide +kernel
theorem d_F_next_13 : decode y_F_next.2.1 13 = .ok (.getfield 46, 3) := by decide +kernel
theorem d_F_next_16 : decode y_F_next.2.1 16 = .ok (.invokevirtual 268, 3) := by decide +kernel
theorem d_F_next_19 : decode y_F_next.2.1 19 = .ok (.ireturn, 1) := by decide +kernel
theorem d_F_undo_0 : decode y_F_undo.2.1 0 = .ok (.aload_n 0, 1) := by decide +kernel
theorem d_F_undo_1 : decode y_F_undo.2.1 1 = .ok (.getfield 12, 3) := by decide +kernel
theorem d_F_undo_4 : decode y_F_undo.2.1 4 = .ok (.invokevirtual 271, 3) := by decide +kernel
theorem d_F_undo_7 : decode y_F_undo.2.1 7 = .ok (.ireturn, 1) := by decide +kernel
theorem d_F_redo_0 : decode y_F_redo.2.1 0 = .ok (.aload_n 0, 1) := by decide +kernel
theorem d_F_redo_1 : decode y_F_redo.2.1 1 = .ok (.getfield 12, 3) := by decide +kernel
theorem d_F_redo_4 : decode y_F_redo.2.1 4 = .ok (.invokevirtual 275, 3) := by decide +kernel
theorem d_F_redo_7 : decode y_F_redo.2.1 7 = .ok (.ireturn, 1) := by decide +kernel
theorem d_F_row_0 : decode y_F_row.2.1 0 = .ok (.iload_n 1, 1) := by decide +kernel
theorem d_F_row_1 : decode y_F_row.2.1 1 = .ok (.invokestatic 195, 3) := by decide +kernel
theorem d_F_row_4 : decode y_F_row.2.1 4 = .ok (.iload_n 2, 1) := by decide +kernel
theorem d_F_row_5 : decode y_F_row.2.1 5 = .ok (.iconst 0, 1) := by decide +kernel
theorem d_F_row_6 : decode y_F_row.2.1 6 = .ok (.iconst 3, 1) := by decide +kernel
theorem d_F_row_7 : decode y_F_row.2.1 7 = .ok (.invokestatic 80, 3) := by decide +kernel
theorem d_F_row_10 : decode y_F_row.2.1 10 = .ok (.iload_n 3, 1) := by decide +kernel
theorem d_F_row_11 : decode y_F_row.2.1 11 = .ok (.iconst 0, 1) := by decide +kernel
theorem d_F_row_12 : decode y_F_row.2.1 12 = .ok (.bipush 30, 2) := by decide +kernel
theorem d_F_row_14 : decode y_F_row.2.1 14 = .ok (.invokestatic 80, 3) := by decide +kernel
theorem d_F_row_17 : decode y_F_row.2.1 17 = .ok (.aload_n 0, 1) := by decide +kernel
theorem d_F_row_18 : decode y_F_row.2.1 18 = .ok (.getfield 76, 3) := by decide +kernel
theorem d_F_row_21 : decode y_F_row.2.1 21 = .ok (.iload_n 1, 1) := by decide +kernel
theorem d_F_row_22 : decode y_F_row.2.1 22 = .ok (.iload_n 2, 1) := by decide +kernel
theorem d_F_row_23 : decode y_F_row.2.1 23 = .ok (.iload_n 3, 1) := by decide +kernel
theorem d_F_row_24 : decode y_F_row.2.1 24 = .ok (.invokevirtual 278, 3) := by decide +kernel
theorem d_F_row_27 : decode y_F_row.2.1 27 = .ok (.return_, 1) := by decide +kernel
theorem d_F_write_0 : decode y_F_write.2.1 0 = .ok (.iload_n 1, 1) := by decide +kernel
theorem d_F_write_1 : decode y_F_write.2.1 1 = .ok (.invokestatic 195, 3) := by decide +kernel
theorem d_F_write_4 : decode y_F_write.2.1 4 = .ok (.aload_n 0, 1) := by decide +kernel
theorem d_F_write_5 : decode y_F_write.2.1 5 = .ok (.iload_n 1, 1) := by decide +kernel
theorem d_F_write_6 : decode y_F_write.2.1 6 = .ok (.iconst 0, 1) := by decide +kernel
theorem d_F_write_7 : decode y_F_write.2.1 7 = .ok (.invokevirtual 198, 3) := by decide +kernel
theorem d_F_write_10 : decode y_F_write.2.1 10 = .ok (.iload_n 2, 1) := by decide +kernel
theorem d_F_write_11 : decode y_F_write.2.1 11 = .ok (.ifCond .lt 15, 3) := by decide +kernel
theorem d_F_write_14 : decode y_F_write.2.1 14 = .ok (.iload_n 2, 1) := by decide +kernel
theorem d_F_write_15 : decode y_F_write.2.1 15 = .ok (.aload_n 0, 1) := by decide +kernel
theorem d_F_write_16 : decode y_F_write.2.1 16 = .ok (.getfield 76, 3) := by decide +kernel
theorem d_F_write_19 : decode y_F_write.2.1 19 = .ok (.iload_n 1, 1) := by decide +kernel
theorem d_F_write_20 : decode y_F_write.2.1 20 = .ok (.invokevirtual 281, 3) := by decide +kernel
theorem d_F_write_23 : decode y_F_write.2.1 23 = .ok (.if_icmp .lt 14, 3) := by decide +kernel
theorem d_F_write_26 : decode y_F_write.2.1 26 = .ok (.new 284, 3) := by decide +kernel
theorem d_F_write_29 : decode y_F_write.2.1 29 = .ok (.dup, 1) := by decide +kernel
theorem d_F_write_30 : decode y_F_write.2.1 30 = .ok (.ldc_w 286, 3) := by decide +kernel
theorem d_F_write_33 : decode y_F_write.2.1 33 = .ok (.invokespecial 288, 3) := by decide +kernel
theorem d_F_write_36 : decode y_F_write.2.1 36 = .ok (.athrow, 1) := by decide +kernel
theorem d_F_write_37 : decode y_F_write.2.1 37 = .ok (.aload_n 0, 1) := by decide +kernel
theorem d_F_write_38 : decode y_F_write.2.1 38 = .ok (.getfield 76, 3) := by decide +kernel
theorem d_F_write_41 : decode y_F_write.2.1 41 = .ok (.iload_n 1, 1) := by decide +kernel
theorem d_F_write_42 : decode y_F_write.2.1 42 = .ok (.iload_n 2, 1) := by decide +kernel
theorem d_F_write_43 : decode y_F_write.2.1 43 = .ok (.lload_n 3, 1) := by decide +kernel
theorem d_F_write_44 : decode y_F_write.2.1 44 = .ok (.invokevirtual 289, 3) := by decide +kernel
theorem d_F_write_47 : decode y_F_write.2.1 47 = .ok (.lreturn, 1) := by decide +kernel
theorem d_F_lay_0 : decode y_F_lay.2.1 0 = .ok (.aload_n 0, 1) := by decide +kernel
theorem d_F_lay_1 : decode y_F_lay.2.1 1 = .ok (.iload 4, 2) := by decide +kernel
theorem d_F_lay_3 : decode y_F_lay.2.1 3 = .ok (.invokevirtual 143, 3) := by decide +kernel
theorem d_F_lay_6 : decode y_F_lay.2.1 6 = .ok (.iload 6, 2) := by decide +kernel
theorem d_F_lay_8 : decode y_F_lay.2.1 8 = .ok (.invokestatic 195, 3) := by decide +kernel
theorem d_F_lay_11 : decode y_F_lay.2.1 11 = .ok (.iload_n 1, 1) := by decide +kernel
theorem d_F_lay_12 : decode y_F_lay.2.1 12 = .ok (.iload_n 2, 1) := by decide +kernel
theorem d_F_lay_13 : decode y_F_lay.2.1 13 = .ok (.iload_n 3, 1) := by decide +kernel
theorem d_F_lay_14 : decode y_F_lay.2.1 14 = .ok (.invokestatic 146, 3) := by decide +kernel
theorem d_F_lay_17 : decode y_F_lay.2.1 17 = .ok (.iload 5, 2) := by decide +kernel
theorem d_F_lay_19 : decode y_F_lay.2.1 19 = .ok (.invokestatic 110, 3) := by decide +kernel
theorem d_F_lay_22 : decode y_F_lay.2.1 22 = .ok (.aload_n 0, 1) := by decide +kernel
theorem d_F_lay_23 : decode y_F_lay.2.1 23 = .ok (.iload 6, 2) := by decide +kernel
theorem d_F_lay_25 : decode y_F_lay.2.1 25 = .ok (.iload 5, 2) := by decide +kernel
theorem d_F_lay_27 : decode y_F_lay.2.1 27 = .ok (.iconst 1, 1) := by decide +kernel
theorem d_F_lay_28 : decode y_F_lay.2.1 28 = .ok (.iadd, 1) := by decide +kernel
theorem d_F_lay_29 : decode y_F_lay.2.1 29 = .ok (.invokevirtual 198, 3) := by decide +kernel
theorem d_F_lay_32 : decode y_F_lay.2.1 32 = .ok (.aload_n 0, 1) := by decide +kernel
theorem d_F_lay_33 : decode y_F_lay.2.1 33 = .ok (.getfield 30, 3) := by decide +kernel
theorem d_F_lay_36 : decode y_F_lay.2.1 36 = .ok (.iload_n 1, 1) := by decide +kernel
theorem d_F_lay_37 : decode y_F_lay.2.1 37 = .ok (.iload_n 2, 1) := by decide +kernel
theorem d_F_lay_38 : decode y_F_lay.2.1 38 = .ok (.iload_n 3, 1) := by decide +kernel
theorem d_F_lay_39 : decode y_F_lay.2.1 39 = .ok (.iload 4, 2) := by decide +kernel
theorem d_F_lay_41 : decode y_F_lay.2.1 41 = .ok (.invokevirtual 149, 3) := by decide +kernel
theorem d_F_lay_44 : decode y_F_lay.2.1 44 = .ok (.aload_n 0, 1) := by decide +kernel
theorem d_F_lay_45 : decode y_F_lay.2.1 45 = .ok (.getfield 39, 3) := by decide +kernel
theorem d_F_lay_48 : decode y_F_lay.2.1 48 = .ok (.iload 5, 2) := by decide +kernel
theorem d_F_lay_50 : decode y_F_lay.2.1 50 = .ok (.aload_n 0, 1) := by decide +kernel
theorem d_F_lay_51 : decode y_F_lay.2.1 51 = .ok (.getfield 21, 3) := by decide +kernel
theorem d_F_lay_54 : decode y_F_lay.2.1 54 = .ok (.invokevirtual 182, 3) := by decide +kernel
theorem d_F_lay_57 : decode y_F_lay.2.1 57 = .ok (.aload_n 0, 1) := by decide +kernel
theorem d_F_lay_58 : decode y_F_lay.2.1 58 = .ok (.getfield 21, 3) := by decide +kernel
theorem d_F_lay_61 : decode y_F_lay.2.1 61 = .ok (.invokevirtual 185, 3) := by decide +kernel
theorem d_F_lay_64 : decode y_F_lay.2.1 64 = .ok (.invokevirtual 188, 3) := by decide +kernel
theorem d_F_lay_67 : decode y_F_lay.2.1 67 = .ok (.pop, 1) := by decide +kernel
theorem d_F_lay_68 : decode y_F_lay.2.1 68 = .ok (.iconst 0, 1) := by decide +kernel
theorem d_F_lay_69 : decode y_F_lay.2.1 69 = .ok (.istore 7, 2) := by decide +kernel
theorem d_F_lay_71 : decode y_F_lay.2.1 71 = .ok (.iload 7, 2) := by decide +kernel
theorem d_F_lay_73 : decode y_F_lay.2.1 73 = .ok (.iload 5, 2) := by decide +kernel
theorem d_F_lay_75 : decode y_F_lay.2.1 75 = .ok (.if_icmp .gt 31, 3) := by decide +kernel
theorem d_F_lay_78 : decode y_F_lay.2.1 78 = .ok (.aload_n 0, 1) := by decide +kernel
theorem d_F_lay_79 : decode y_F_lay.2.1 79 = .ok (.getfield 76, 3) := by decide +kernel
theorem d_F_lay_82 : decode y_F_lay.2.1 82 = .ok (.iload 6, 2) := by decide +kernel
theorem d_F_lay_84 : decode y_F_lay.2.1 84 = .ok (.iload 7, 2) := by decide +kernel
theorem d_F_lay_86 : decode y_F_lay.2.1 86 = .ok (.aload_n 0, 1) := by decide +kernel
theorem d_F_lay_87 : decode y_F_lay.2.1 87 = .ok (.getfield 39, 3) := by decide +kernel
theorem d_F_lay_90 : decode y_F_lay.2.1 90 = .ok (.iload 7, 2) := by decide +kernel
theorem d_F_lay_92 : decode y_F_lay.2.1 92 = .ok (.invokevirtual 192, 3) := by decide +kernel
theorem d_F_lay_95 : decode y_F_lay.2.1 95 = .ok (.i2l, 1) := by decide +kernel
theorem d_F_lay_96 : decode y_F_lay.2.1 96 = .ok (.invokevirtual 289, 3) := by decide +kernel
theorem d_F_lay_99 : decode y_F_lay.2.1 99 = .ok (.pop2, 1) := by decide +kernel
theorem d_F_lay_100 : decode y_F_lay.2.1 100 = .ok (.iinc 7 1, 3) := by decide +kernel
theorem d_F_lay_103 : decode y_F_lay.2.1 103 = .ok (.goto (-32), 3) := by decide +kernel
theorem d_F_lay_106 : decode y_F_lay.2.1 106 = .ok (.iload 5, 2) := by decide +kernel
theorem d_F_lay_108 : decode y_F_lay.2.1 108 = .ok (.iconst 1, 1) := by decide +kernel
theorem d_F_lay_109 : decode y_F_lay.2.1 109 = .ok (.iadd, 1) := by decide +kernel
theorem d_F_lay_110 : decode y_F_lay.2.1 110 = .ok (.ireturn, 1) := by decide +kernel
theorem d_F_count_0 : decode y_F_count.2.1 0 = .ok (.iload_n 1, 1) := by decide +kernel
theorem d_F_count_1 : decode y_F_count.2.1 1 = .ok (.tableswitch 201 0 12 #[67, 78, 89, 100, 111, 122, 133, 141, 152, 163, 174, 185, 193], 67) := by decide +kernel
theorem d_F_count_68 : decode y_F_count.2.1 68 = .ok (.aload_n 0, 1) := by decide +kernel
theorem d_F_count_69 : decode y_F_count.2.1 69 = .ok (.getfield 21, 3) := by decide +kernel
theorem d_F_count_72 : decode y_F_count.2.1 72 = .ok (.getfield 84, 3) := by decide +kernel
theorem d_F_count_75 : decode y_F_count.2.1 75 = .ok (.invokevirtual 206, 3) := by decide +kernel
theorem d_F_count_78 : decode y_F_count.2.1 78 = .ok (.ireturn, 1) := by decide +kernel
theorem d_F_count_79 : decode y_F_count.2.1 79 = .ok (.aload_n 0, 1) := by decide +kernel
theorem d_F_count_80 : decode y_F_count.2.1 80 = .ok (.getfield 21, 3) := by decide +kernel
theorem d_F_count_83 : decode y_F_count.2.1 83 = .ok (.getfield 103, 3) := by decide +kernel
theorem d_F_count_86 : decode y_F_count.2.1 86 = .ok (.invokevirtual 206, 3) := by decide +kernel
theorem d_F_count_89 : decode y_F_count.2.1 89 = .ok (.ireturn, 1) := by decide +kernel
theorem d_F_count_90 : decode y_F_count.2.1 90 = .ok (.aload_n 0, 1) := by decide +kernel
theorem d_F_count_91 : decode y_F_count.2.1 91 = .ok (.getfield 21, 3) := by decide +kernel
theorem d_F_count_94 : decode y_F_count.2.1 94 = .ok (.getfield 115, 3) := by decide +kernel
theorem d_F_count_97 : decode y_F_count.2.1 97 = .ok (.invokevirtual 206, 3) := by decide +kernel
theorem d_F_count_100 : decode y_F_count.2.1 100 = .ok (.ireturn, 1) := by decide +kernel
theorem d_F_count_101 : decode y_F_count.2.1 101 = .ok (.aload_n 0, 1) := by decide +kernel
theorem d_F_count_102 : decode y_F_count.2.1 102 = .ok (.getfield 21, 3) := by decide +kernel
theorem d_F_count_105 : decode y_F_count.2.1 105 = .ok (.getfield 122, 3) := by decide +kernel
theorem d_F_count_108 : decode y_F_count.2.1 108 = .ok (.invokevirtual 206, 3) := by decide +kernel
theorem d_F_count_111 : decode y_F_count.2.1 111 = .ok (.ireturn, 1) := by decide +kernel
theorem d_F_count_112 : decode y_F_count.2.1 112 = .ok (.aload_n 0, 1) := by decide +kernel
theorem d_F_count_113 : decode y_F_count.2.1 113 = .ok (.getfield 21, 3) := by decide +kernel
theorem d_F_count_116 : decode y_F_count.2.1 116 = .ok (.getfield 128, 3) := by decide +kernel
theorem d_F_count_119 : decode y_F_count.2.1 119 = .ok (.invokevirtual 206, 3) := by decide +kernel
theorem d_F_count_122 : decode y_F_count.2.1 122 = .ok (.ireturn, 1) := by decide +kernel
theorem d_F_count_123 : decode y_F_count.2.1 123 = .ok (.aload_n 0, 1) := by decide +kernel
theorem d_F_count_124 : decode y_F_count.2.1 124 = .ok (.getfield 21, 3) := by decide +kernel
theorem d_F_count_127 : decode y_F_count.2.1 127 = .ok (.getfield 134, 3) := by decide +kernel
theorem d_F_count_130 : decode y_F_count.2.1 130 = .ok (.invokevirtual 206, 3) := by decide +kernel
theorem d_F_count_133 : decode y_F_count.2.1 133 = .ok (.ireturn, 1) := by decide +kernel
theorem d_F_count_134 : decode y_F_count.2.1 134 = .ok (.aload_n 0, 1) := by decide +kernel
theorem d_F_count_135 : decode y_F_count.2.1 135 = .ok (.getfield 21, 3) := by decide +kernel
theorem d_F_count_138 : decode y_F_count.2.1 138 = .ok (.invokevirtual 293, 3) := by decide +kernel
theorem d_F_count_141 : decode y_F_count.2.1 141 = .ok (.ireturn, 1) := by decide +kernel
theorem d_F_count_142 : decode y_F_count.2.1 142 = .ok (.aload_n 0, 1) := by decide +kernel
theorem d_F_count_143 : decode y_F_count.2.1 143 = .ok (.getfield 21, 3) := by decide +kernel
theorem d_F_count_146 : decode y_F_count.2.1 146 = .ok (.getfield 137, 3) := by decide +kernel
theorem d_F_count_149 : decode y_F_count.2.1 149 = .ok (.invokevirtual 206, 3) := by decide +kernel
theorem d_F_count_152 : decode y_F_count.2.1 152 = .ok (.ireturn, 1) := by decide +kernel
theorem d_F_count_153 : decode y_F_count.2.1 153 = .ok (.aload_n 0, 1) := by decide +kernel
theorem d_F_count_154 : decode y_F_count.2.1 154 = .ok (.getfield 21, 3) := by decide +kernel
theorem d_F_count_157 : decode y_F_count.2.1 157 = .ok (.invokevirtual 185, 3) := by decide +kernel
theorem d_F_count_160 : decode y_F_count.2.1 160 = .ok (.invokestatic 296, 3) := by decide +kernel
theorem d_F_count_163 : decode y_F_count.2.1 163 = .ok (.ireturn, 1) := by decide +kernel
theorem d_F_count_164 : decode y_F_count.2.1 164 = .ok (.aload_n 0, 1) := by decide +kernel
theorem d_F_count_165 : decode y_F_count.2.1 165 = .ok (.getfield 21, 3) := by decide +kernel
theorem d_F_count_168 : decode y_F_count.2.1 168 = .ok (.getfield 241, 3) := by decide +kernel
theorem d_F_count_171 : decode y_F_count.2.1 171 = .ok (.invokevirtual 206, 3) := by decide +kernel
theorem d_F_count_174 : decode y_F_count.2.1 174 = .ok (.ireturn, 1) := by decide +kernel
theorem d_F_count_175 : decode y_F_count.2.1 175 = .ok (.aload_n 0, 1) := by decide +kernel
theorem d_F_count_176 : decode y_F_count.2.1 176 = .ok (.getfield 21, 3) := by decide +kernel
theorem d_F_count_179 : decode y_F_count.2.1 179 = .ok (.getfield 262, 3) := by decide +kernel
theorem d_F_count_182 : decode y_F_count.2.1 182 = .ok (.invokevirtual 206, 3) := by decide +kernel
theorem d_F_count_185 : decode y_F_count.2.1 185 = .ok (.ireturn, 1) := by decide +kernel
theorem d_F_count_186 : decode y_F_count.2.1 186 = .ok (.aload_n 0, 1) := by decide +kernel
theorem d_F_count_187 : decode y_F_count.2.1 187 = .ok (.getfield 12, 3) := by decide +kernel
theorem d_F_count_190 : decode y_F_count.2.1 190 = .ok (.invokevirtual 301, 3) := by decide +kernel
theorem d_F_count_193 : decode y_F_count.2.1 193 = .ok (.ireturn, 1) := by decide +kernel
theorem d_F_count_194 : decode y_F_count.2.1 194 = .ok (.aload_n 0, 1) := by decide +kernel
theorem d_F_count_195 : decode y_F_count.2.1 195 = .ok (.getfield 12, 3) := by decide +kernel
theorem d_F_count_198 : decode y_F_count.2.1 198 = .ok (.invokevirtual 304, 3) := by decide +kernel
theorem d_F_count_201 : decode y_F_count.2.1 201 = .ok (.ireturn, 1) := by decide +kernel
theorem d_F_count_202 : decode y_F_count.2.1 202 = .ok (.iconst (-1), 1) := by decide +kernel
theorem d_F_count_203 : decode y_F_count.2.1 203 = .ok (.ireturn, 1) := by decide +kernel
theorem d_F_needWithin_0 : decode y_F_needWithin.2.1 0 = .ok (.iload_n 0, 1) := by decide +kernel
theorem d_F_needWithin_1 : decode y_F_needWithin.2.1 1 = .ok (.iload_n 1, 1) := by decide +kernel
theorem d_F_needWithin_2 : decode y_F_needWithin.2.1 2 = .ok (.if_icmp .lt 8, 3) := by decide +kernel
theorem d_F_needWithin_5 : decode y_F_needWithin.2.1 5 = .ok (.iload_n 0, 1) := by decide +kernel
theorem d_F_needWithin_6 : decode y_F_needWithin.2.1 6 = .ok (.iload_n 2, 1) := by decide +kernel
theorem d_F_needWithin_7 : decode y_F_needWithin.2.1 7 = .ok (.if_icmp .le 14, 3) := by decide +kernel
theorem d_F_needWithin_10 : decode y_F_needWithin.2.1 10 = .ok (.new 96, 3) := by decide +kernel
theorem d_F_needWithin_13 : decode y_F_needWithin.2.1 13 = .ok (.dup, 1) := by decide +kernel
theorem d_F_needWithin_14 : decode y_F_needWithin.2.1 14 = .ok (.ldc_w 307, 3) := by decide +kernel
theorem d_F_needWithin_17 : decode y_F_needWithin.2.1 17 = .ok (.invokespecial 100, 3) := by decide +kernel
theorem d_F_needWithin_20 : decode y_F_needWithin.2.1 20 = .ok (.athrow, 1) := by decide +kernel
theorem d_F_needWithin_21 : decode y_F_needWithin.2.1 21 = .ok (.return_, 1) := by decide +kernel
theorem d_F_needMinute_0 : decode y_F_needMinute.2.1 0 = .ok (.iload_n 0, 1) := by decide +kernel
theorem d_F_needMinute_1 : decode y_F_needMinute.2.1 1 = .ok (.iconst 0, 1) := by decide +kernel
theorem d_F_needMinute_2 : decode y_F_needMinute.2.1 2 = .ok (.bipush 20, 2) := by decide +kernel
theorem d_F_needMinute_4 : decode y_F_needMinute.2.1 4 = .ok (.invokestatic 80, 3) := by decide +kernel
theorem d_F_needMinute_7 : decode y_F_needMinute.2.1 7 = .ok (.return_, 1) := by decide +kernel
theorem d_F_needPlan_0 : decode y_F_needPlan.2.1 0 = .ok (.iload_n 0, 1) := by decide +kernel
theorem d_F_needPlan_1 : decode y_F_needPlan.2.1 1 = .ok (.iconst 0, 1) := by decide +kernel
theorem d_F_needPlan_2 : decode y_F_needPlan.2.1 2 = .ok (.iconst 3, 1) := by decide +kernel
theorem d_F_needPlan_3 : decode y_F_needPlan.2.1 3 = .ok (.invokestatic 80, 3) := by decide +kernel
theorem d_F_needPlan_6 : decode y_F_needPlan.2.1 6 = .ok (.return_, 1) := by decide +kernel
theorem d_F_needCourse_0 : decode y_F_needCourse.2.1 0 = .ok (.iload_n 0, 1) := by decide +kernel
theorem d_F_needCourse_1 : decode y_F_needCourse.2.1 1 = .ok (.invokestatic 125, 3) := by decide +kernel
theorem d_F_needCourse_4 : decode y_F_needCourse.2.1 4 = .ok (.iload_n 1, 1) := by decide +kernel
theorem d_F_needCourse_5 : decode y_F_needCourse.2.1 5 = .ok (.invokestatic 125, 3) := by decide +kernel
theorem d_F_needCourse_8 : decode y_F_needCourse.2.1 8 = .ok (.iload_n 2, 1) := by decide +kernel
theorem d_F_needCourse_9 : decode y_F_needCourse.2.1 9 = .ok (.iconst 0, 1) := by decide +kernel
theorem d_F_needCourse_10 : decode y_F_needCourse.2.1 10 = .ok (.bipush 21, 2) := by decide +kernel
theorem d_F_needCourse_12 : decode y_F_needCourse.2.1 12 = .ok (.invokestatic 80, 3) := by decide +kernel
theorem d_F_needCourse_15 : decode y_F_needCourse.2.1 15 = .ok (.return_, 1) := by decide +kernel
theorem d_F_needRow_0 : decode y_F_needRow.2.1 0 = .ok (.aload_n 0, 1) := by decide +kernel
theorem d_F_needRow_1 : decode y_F_needRow.2.1 1 = .ok (.iload_n 1, 1) := by decide +kernel
theorem d_F_needRow_2 : decode y_F_needRow.2.1 2 = .ok (.invokevirtual 309, 3) := by decide +kernel
theorem d_F_needRow_5 : decode y_F_needRow.2.1 5 = .ok (.ifCond .ne 14, 3) := by decide +kernel
theorem d_F_needRow_8 : decode y_F_needRow.2.1 8 = .ok (.new 312, 3) := by decide +kernel
theorem d_F_needRow_11 : decode y_F_needRow.2.1 11 = .ok (.dup, 1) := by decide +kernel
theorem d_F_needRow_12 : decode y_F_needRow.2.1 12 = .ok (.ldc_w 314, 3) := by decide +kernel
theorem d_F_needRow_15 : decode y_F_needRow.2.1 15 = .ok (.invokespecial 316, 3) := by decide +kernel
theorem d_F_needRow_18 : decode y_F_needRow.2.1 18 = .ok (.athrow, 1) := by decide +kernel
theorem d_F_needRow_19 : decode y_F_needRow.2.1 19 = .ok (.return_, 1) := by decide +kernel
theorem d_F_needRowNumber_0 : decode y_F_needRowNumber.2.1 0 = .ok (.iload_n 0, 1) := by decide +kernel
theorem d_F_needRowNumber_1 : decode y_F_needRowNumber.2.1 1 = .ok (.ifCond .lt 8, 3) := by decide +kernel
theorem d_F_needRowNumber_4 : decode y_F_needRowNumber.2.1 4 = .ok (.iload_n 0, 1) := by decide +kernel
theorem d_F_needRowNumber_5 : decode y_F_needRowNumber.2.1 5 = .ok (.iconst 4, 1) := by decide +kernel
theorem d_F_needRowNumber_6 : decode y_F_needRowNumber.2.1 6 = .ok (.if_icmp .lt 14, 3) := by decide +kernel
theorem d_F_needRowNumber_9 : decode y_F_needRowNumber.2.1 9 = .ok (.new 312, 3) := by decide +kernel
theorem d_F_needRowNumber_12 : decode y_F_needRowNumber.2.1 12 = .ok (.dup, 1) := by decide +kernel
theorem d_F_needRowNumber_13 : decode y_F_needRowNumber.2.1 13 = .ok (.ldc_w 317, 3) := by decide +kernel
theorem d_F_needRowNumber_16 : decode y_F_needRowNumber.2.1 16 = .ok (.invokespecial 316, 3) := by decide +kernel
theorem d_F_needRowNumber_19 : decode y_F_needRowNumber.2.1 19 = .ok (.athrow, 1) := by decide +kernel
theorem d_F_needRowNumber_20 : decode y_F_needRowNumber.2.1 20 = .ok (.return_, 1) := by decide +kernel
theorem d_F_needFireOrNone_0 : decode y_F_needFireOrNone.2.1 0 = .ok (.iload_n 1, 1) := by decide +kernel
theorem d_F_needFireOrNone_1 : decode y_F_needFireOrNone.2.1 1 = .ok (.iconst (-1), 1) := by decide +kernel
theorem d_F_needFireOrNone_2 : decode y_F_needFireOrNone.2.1 2 = .ok (.if_icmp .eq 14, 3) := by decide +kernel
theorem d_F_needFireOrNone_5 : decode y_F_needFireOrNone.2.1 5 = .ok (.aload_n 0, 1) := by decide +kernel
theorem d_F_needFireOrNone_6 : decode y_F_needFireOrNone.2.1 6 = .ok (.getfield 21, 3) := by decide +kernel
theorem d_F_needFireOrNone_9 : decode y_F_needFireOrNone.2.1 9 = .ok (.getfield 115, 3) := by decide +kernel
theorem d_F_needFireOrNone_12 : decode y_F_needFireOrNone.2.1 12 = .ok (.iload_n 1, 1) := by decide +kernel
theorem d_F_needFireOrNone_13 : decode y_F_needFireOrNone.2.1 13 = .ok (.invokestatic 92, 3) := by decide +kernel
theorem d_F_needFireOrNone_16 : decode y_F_needFireOrNone.2.1 16 = .ok (.return_, 1) := by decide +kernel
theorem d_F_needPerson_0 : decode y_F_needPerson.2.1 0 = .ok (.aload_n 0, 1) := by decide +kernel
theorem d_F_needPerson_1 : decode y_F_needPerson.2.1 1 = .ok (.iload_n 1, 1) := by decide +kernel
theorem d_F_needPerson_2 : decode y_F_needPerson.2.1 2 = .ok (.invokevirtual 143, 3) := by decide +kernel
theorem d_F_needPerson_5 : decode y_F_needPerson.2.1 5 = .ok (.aload_n 0, 1) := by decide +kernel
theorem d_F_needPerson_6 : decode y_F_needPerson.2.1 6 = .ok (.getfield 21, 3) := by decide +kernel
theorem d_F_needPerson_9 : decode y_F_needPerson.2.1 9 = .ok (.getfield 84, 3) := by decide +kernel
theorem d_F_needPerson_12 : decode y_F_needPerson.2.1 12 = .ok (.iload_n 2, 1) := by decide +kernel
theorem d_F_needPerson_13 : decode y_F_needPerson.2.1 13 = .ok (.invokestatic 92, 3) := by decide +kernel
theorem d_F_needPerson_16 : decode y_F_needPerson.2.1 16 = .ok (.return_, 1) := by decide +kernel
theorem d_F_needPieceSet_0 : decode y_F_needPieceSet.2.1 0 = .ok (.iload_n 1, 1) := by decide +kernel
theorem d_F_needPieceSet_1 : decode y_F_needPieceSet.2.1 1 = .ok (.iconst 0, 1) := by decide +kernel
theorem d_F_needPieceSet_2 : decode y_F_needPieceSet.2.1 2 = .ok (.iconst 1, 1) := by decide +kernel
theorem d_F_needPieceSet_3 : decode y_F_needPieceSet.2.1 3 = .ok (.aload_n 0, 1) := by decide +kernel
theorem d_F_needPieceSet_4 : decode y_F_needPieceSet.2.1 4 = .ok (.getfield 21, 3) := by decide +kernel
theorem d_F_needPieceSet_7 : decode y_F_needPieceSet.2.1 7 = .ok (.getfield 84, 3) := by decide +kernel
theorem d_F_needPieceSet_10 : decode y_F_needPieceSet.2.1 10 = .ok (.invokevirtual 206, 3) := by decide +kernel
theorem d_F_needPieceSet_13 : decode y_F_needPieceSet.2.1 13 = .ok (.ishl, 1) := by decide +kernel
theorem d_F_needPieceSet_14 : decode y_F_needPieceSet.2.1 14 = .ok (.iconst 1, 1) := by decide +kernel
theorem d_F_needPieceSet_15 : decode y_F_needPieceSet.2.1 15 = .ok (.isub, 1) := by decide +kernel
theorem d_F_needPieceSet_16 : decode y_F_needPieceSet.2.1 16 = .ok (.invokestatic 80, 3) := by decide +kernel
theorem d_F_needPieceSet_19 : decode y_F_needPieceSet.2.1 19 = .ok (.return_, 1) := by decide +kernel
theorem d_F_needSomeFire_0 : decode y_F_needSomeFire.2.1 0 = .ok (.aload_n 0, 1) := by decide +kernel
theorem d_F_needSomeFire_1 : decode y_F_needSomeFire.2.1 1 = .ok (.getfield 21, 3) := by decide +kernel
theorem d_F_needSomeFire_4 : decode y_F_needSomeFire.2.1 4 = .ok (.getfield 115, 3) := by decide +kernel
theorem d_F_needSomeFire_7 : decode y_F_needSomeFire.2.1 7 = .ok (.invokevirtual 206, 3) := by decide +kernel
theorem d_F_needSomeFire_10 : decode y_F_needSomeFire.2.1 10 = .ok (.ifCond .ne 14, 3) := by decide +kernel
theorem d_F_needSomeFire_13 : decode y_F_needSomeFire.2.1 13 = .ok (.new 319, 3) := by decide +kernel
theorem d_F_needSomeFire_16 : decode y_F_needSomeFire.2.1 16 = .ok (.dup, 1) := by decide +kernel
theorem d_F_needSomeFire_17 : decode y_F_needSomeFire.2.1 17 = .ok (.ldc_w 321, 3) := by decide +kernel
theorem d_F_needSomeFire_20 : decode y_F_needSomeFire.2.1 20 = .ok (.invokespecial 323, 3) := by decide +kernel
theorem d_F_needSomeFire_23 : decode y_F_needSomeFire.2.1 23 = .ok (.athrow, 1) := by decide +kernel
theorem d_F_needSomeFire_24 : decode y_F_needSomeFire.2.1 24 = .ok (.return_, 1) := by decide +kernel
theorem d_F_needPlaces_0 : decode y_F_needPlaces.2.1 0 = .ok (.aload_n 0, 1) := by decide +kernel
theorem d_F_needPlaces_1 : decode y_F_needPlaces.2.1 1 = .ok (.getfield 76, 3) := by decide +kernel
theorem d_F_needPlaces_4 : decode y_F_needPlaces.2.1 4 = .ok (.iload_n 1, 1) := by decide +kernel
theorem d_F_needPlaces_5 : decode y_F_needPlaces.2.1 5 = .ok (.invokevirtual 324, 3) := by decide +kernel
theorem d_F_needPlaces_8 : decode y_F_needPlaces.2.1 8 = .ok (.ifCond .eq 14, 3) := by decide +kernel
theorem d_F_needPlaces_11 : decode y_F_needPlaces.2.1 11 = .ok (.new 319, 3) := by decide +kernel
theorem d_F_needPlaces_14 : decode y_F_needPlaces.2.1 14 = .ok (.dup, 1) := by decide +kernel
theorem d_F_needPlaces_15 : decode y_F_needPlaces.2.1 15 = .ok (.ldc_w 327, 3) := by decide +kernel
theorem d_F_needPlaces_18 : decode y_F_needPlaces.2.1 18 = .ok (.invokespecial 323, 3) := by decide +kernel
theorem d_F_needPlaces_21 : decode y_F_needPlaces.2.1 21 = .ok (.athrow, 1) := by decide +kernel
theorem d_F_needPlaces_22 : decode y_F_needPlaces.2.1 22 = .ok (.aload_n 0, 1) := by decide +kernel
theorem d_F_needPlaces_23 : decode y_F_needPlaces.2.1 23 = .ok (.getfield 76, 3) := by decide +kernel
theorem d_F_needPlaces_26 : decode y_F_needPlaces.2.1 26 = .ok (.iload_n 1, 1) := by decide +kernel
theorem d_F_needPlaces_27 : decode y_F_needPlaces.2.1 27 = .ok (.invokevirtual 281, 3) := by decide +kernel
theorem d_F_needPlaces_30 : decode y_F_needPlaces.2.1 30 = .ok (.iload_n 2, 1) := by decide +kernel
theorem d_F_needPlaces_31 : decode y_F_needPlaces.2.1 31 = .ok (.if_icmp .ge 14, 3) := by decide +kernel
theorem d_F_needPlaces_34 : decode y_F_needPlaces.2.1 34 = .ok (.new 284, 3) := by decide +kernel
theorem d_F_needPlaces_37 : decode y_F_needPlaces.2.1 37 = .ok (.dup, 1) := by decide +kernel
theorem d_F_needPlaces_38 : decode y_F_needPlaces.2.1 38 = .ok (.ldc_w 329, 3) := by decide +kernel
theorem d_F_needPlaces_41 : decode y_F_needPlaces.2.1 41 = .ok (.invokespecial 288, 3) := by decide +kernel
theorem d_F_needPlaces_44 : decode y_F_needPlaces.2.1 44 = .ok (.athrow, 1) := by decide +kernel
theorem d_F_needPlaces_45 : decode y_F_needPlaces.2.1 45 = .ok (.return_, 1) := by decide +kernel
theorem d_F_spot_0 : decode y_F_spot.2.1 0 = .ok (.iload_n 1, 1) := by decide +kernel
theorem d_F_spot_1 : decode y_F_spot.2.1 1 = .ok (.bipush 8, 2) := by decide +kernel
theorem d_F_spot_3 : decode y_F_spot.2.1 3 = .ok (.imul, 1) := by decide +kernel
theorem d_F_spot_4 : decode y_F_spot.2.1 4 = .ok (.iload_n 0, 1) := by decide +kernel
theorem d_F_spot_5 : decode y_F_spot.2.1 5 = .ok (.iadd, 1) := by decide +kernel
theorem d_F_spot_6 : decode y_F_spot.2.1 6 = .ok (.ireturn, 1) := by decide +kernel
theorem d_JI_compare_0 : decode y_JI_compare.2.1 0 = .ok (.iload_n 0, 1) := by decide +kernel
theorem d_JI_compare_1 : decode y_JI_compare.2.1 1 = .ok (.iload_n 1, 1) := by decide +kernel
theorem d_JI_compare_2 : decode y_JI_compare.2.1 2 = .ok (.if_icmp .ge 7, 3) := by decide +kernel
theorem d_JI_compare_5 : decode y_JI_compare.2.1 5 = .ok (.iconst (-1), 1) := by decide +kernel
theorem d_JI_compare_6 : decode y_JI_compare.2.1 6 = .ok (.goto 13, 3) := by decide +kernel
theorem d_JI_compare_9 : decode y_JI_compare.2.1 9 = .ok (.iload_n 0, 1) := by decide +kernel
theorem d_JI_compare_10 : decode y_JI_compare.2.1 10 = .ok (.iload_n 1, 1) := by decide +kernel
theorem d_JI_compare_11 : decode y_JI_compare.2.1 11 = .ok (.if_icmp .ne 7, 3) := by decide +kernel
theorem d_JI_compare_14 : decode y_JI_compare.2.1 14 = .ok (.iconst 0, 1) := by decide +kernel
theorem d_JI_compare_15 : decode y_JI_compare.2.1 15 = .ok (.goto 4, 3) := by decide +kernel
theorem d_JI_compare_18 : decode y_JI_compare.2.1 18 = .ok (.iconst 1, 1) := by decide +kernel
theorem d_JI_compare_19 : decode y_JI_compare.2.1 19 = .ok (.ireturn, 1) := by decide +kernel
theorem d_JI_bitCount_0 : decode y_JI_bitCount.2.1 0 = .ok (.iload_n 0, 1) := by decide +kernel
theorem d_JI_bitCount_1 : decode y_JI_bitCount.2.1 1 = .ok (.iload_n 0, 1) := by decide +kernel
theorem d_JI_bitCount_2 : decode y_JI_bitCount.2.1 2 = .ok (.iconst 1, 1) := by decide +kernel
theorem d_JI_bitCount_3 : decode y_JI_bitCount.2.1 3 = .ok (.iushr, 1) := by decide +kernel
theorem d_JI_bitCount_4 : decode y_JI_bitCount.2.1 4 = .ok (.ldc_w 265, 3) := by decide +kernel
theorem d_JI_bitCount_7 : decode y_JI_bitCount.2.1 7 = .ok (.iand, 1) := by decide +kernel
theorem d_JI_bitCount_8 : decode y_JI_bitCount.2.1 8 = .ok (.isub, 1) := by decide +kernel
theorem d_JI_bitCount_9 : decode y_JI_bitCount.2.1 9 = .ok (.istore_n 0, 1) := by decide +kernel
theorem d_JI_bitCount_10 : decode y_JI_bitCount.2.1 10 = .ok (.iload_n 0, 1) := by decide +kernel
theorem d_JI_bitCount_11 : decode y_JI_bitCount.2.1 11 = .ok (.ldc_w 266, 3) := by decide +kernel
theorem d_JI_bitCount_14 : decode y_JI_bitCount.2.1 14 = .ok (.iand, 1) := by decide +kernel
theorem d_JI_bitCount_15 : decode y_JI_bitCount.2.1 15 = .ok (.iload_n 0, 1) := by decide +kernel
theorem d_JI_bitCount_16 : decode y_JI_bitCount.2.1 16 = .ok (.iconst 2, 1) := by decide +kernel
theorem d_JI_bitCount_17 : decode y_JI_bitCount.2.1 17 = .ok (.iushr, 1) := by decide +kernel
theorem d_JI_bitCount_18 : decode y_JI_bitCount.2.1 18 = .ok (.ldc_w 266, 3) := by decide +kernel
theorem d_JI_bitCount_21 : decode y_JI_bitCount.2.1 21 = .ok (.iand, 1) := by decide +kernel
theorem d_JI_bitCount_22 : decode y_JI_bitCount.2.1 22 = .ok (.iadd, 1) := by decide +kernel
theorem d_JI_bitCount_23 : decode y_JI_bitCount.2.1 23 = .ok (.istore_n 0, 1) := by decide +kernel
theorem d_JI_bitCount_24 : decode y_JI_bitCount.2.1 24 = .ok (.iload_n 0, 1) := by decide +kernel
theorem d_JI_bitCount_25 : decode y_JI_bitCount.2.1 25 = .ok (.iload_n 0, 1) := by decide +kernel
theorem d_JI_bitCount_26 : decode y_JI_bitCount.2.1 26 = .ok (.iconst 4, 1) := by decide +kernel
theorem d_JI_bitCount_27 : decode y_JI_bitCount.2.1 27 = .ok (.iushr, 1) := by decide +kernel
theorem d_JI_bitCount_28 : decode y_JI_bitCount.2.1 28 = .ok (.iadd, 1) := by decide +kernel
theorem d_JI_bitCount_29 : decode y_JI_bitCount.2.1 29 = .ok (.ldc_w 267, 3) := by decide +kernel
theorem d_JI_bitCount_32 : decode y_JI_bitCount.2.1 32 = .ok (.iand, 1) := by decide +kernel
theorem d_JI_bitCount_33 : decode y_JI_bitCount.2.1 33 = .ok (.istore_n 0, 1) := by decide +kernel
theorem d_JI_bitCount_34 : decode y_JI_bitCount.2.1 34 = .ok (.iload_n 0, 1) := by decide +kernel
theorem d_JI_bitCount_35 : decode y_JI_bitCount.2.1 35 = .ok (.iload_n 0, 1) := by decide +kernel
theorem d_JI_bitCount_36 : decode y_JI_bitCount.2.1 36 = .ok (.bipush 8, 2) := by decide +kernel
theorem d_JI_bitCount_38 : decode y_JI_bitCount.2.1 38 = .ok (.iushr, 1) := by decide +kernel
theorem d_JI_bitCount_39 : decode y_JI_bitCount.2.1 39 = .ok (.iadd, 1) := by decide +kernel
theorem d_JI_bitCount_40 : decode y_JI_bitCount.2.1 40 = .ok (.istore_n 0, 1) := by decide +kernel
theorem d_JI_bitCount_41 : decode y_JI_bitCount.2.1 41 = .ok (.iload_n 0, 1) := by decide +kernel
theorem d_JI_bitCount_42 : decode y_JI_bitCount.2.1 42 = .ok (.iload_n 0, 1) := by decide +kernel
theorem d_JI_bitCount_43 : decode y_JI_bitCount.2.1 43 = .ok (.bipush 16, 2) := by decide +kernel
theorem d_JI_bitCount_45 : decode y_JI_bitCount.2.1 45 = .ok (.iushr, 1) := by decide +kernel
theorem d_JI_bitCount_46 : decode y_JI_bitCount.2.1 46 = .ok (.iadd, 1) := by decide +kernel
theorem d_JI_bitCount_47 : decode y_JI_bitCount.2.1 47 = .ok (.istore_n 0, 1) := by decide +kernel
theorem d_JI_bitCount_48 : decode y_JI_bitCount.2.1 48 = .ok (.iload_n 0, 1) := by decide +kernel
theorem d_JI_bitCount_49 : decode y_JI_bitCount.2.1 49 = .ok (.bipush 63, 2) := by decide +kernel
theorem d_JI_bitCount_51 : decode y_JI_bitCount.2.1 51 = .ok (.iand, 1) := by decide +kernel
theorem d_JI_bitCount_52 : decode y_JI_bitCount.2.1 52 = .ok (.ireturn, 1) := by decide +kernel
theorem d_JM_abs_0 : decode y_JM_abs.2.1 0 = .ok (.iload_n 0, 1) := by decide +kernel
theorem d_JM_abs_1 : decode y_JM_abs.2.1 1 = .ok (.ifCond .ge 8, 3) := by decide +kernel
theorem d_JM_abs_4 : decode y_JM_abs.2.1 4 = .ok (.iload_n 0, 1) := by decide +kernel
theorem d_JM_abs_5 : decode y_JM_abs.2.1 5 = .ok (.ineg, 1) := by decide +kernel
theorem d_JM_abs_6 : decode y_JM_abs.2.1 6 = .ok (.goto 4, 3) := by decide +kernel
theorem d_JM_abs_9 : decode y_JM_abs.2.1 9 = .ok (.iload_n 0, 1) := by decide +kernel
theorem d_JM_abs_10 : decode y_JM_abs.2.1 10 = .ok (.ireturn, 1) := by decide +kernel
theorem d_JM_max_0 : decode y_JM_max.2.1 0 = .ok (.iload_n 0, 1) := by decide +kernel
theorem d_JM_max_1 : decode y_JM_max.2.1 1 = .ok (.iload_n 1, 1) := by decide +kernel
theorem d_JM_max_2 : decode y_JM_max.2.1 2 = .ok (.if_icmp .lt 7, 3) := by decide +kernel
theorem d_JM_max_5 : decode y_JM_max.2.1 5 = .ok (.iload_n 0, 1) := by decide +kernel
theorem d_JM_max_6 : decode y_JM_max.2.1 6 = .ok (.goto 4, 3) := by decide +kernel
theorem d_JM_max_9 : decode y_JM_max.2.1 9 = .ok (.iload_n 1, 1) := by decide +kernel
theorem d_JM_max_10 : decode y_JM_max.2.1 10 = .ok (.ireturn, 1) := by decide +kernel
theorem d_JM_min_0 : decode y_JM_min.2.1 0 = .ok (.iload_n 0, 1) := by decide +kernel
theorem d_JM_min_1 : decode y_JM_min.2.1 1 = .ok (.iload_n 1, 1) := by decide +kernel
theorem d_JM_min_2 : decode y_JM_min.2.1 2 = .ok (.if_icmp .gt 7, 3) := by decide +kernel
theorem d_JM_min_5 : decode y_JM_min.2.1 5 = .ok (.iload_n 0, 1) := by decide +kernel
theorem d_JM_min_6 : decode y_JM_min.2.1 6 = .ok (.goto 4, 3) := by decide +kernel
theorem d_JM_min_9 : decode y_JM_min.2.1 9 = .ok (.iload_n 1, 1) := by decide +kernel
theorem d_JM_min_10 : decode y_JM_min.2.1 10 = .ok (.ireturn, 1) := by decide +kernel
theorem d_JA_fill_0 : decode y_JA_fill.2.1 0 = .ok (.iconst 0, 1) := by decide +kernel
theorem d_JA_fill_1 : decode y_JA_fill.2.1 1 = .ok (.istore_n 2, 1) := by decide +kernel
theorem d_JA_fill_2 : decode y_JA_fill.2.1 2 = .ok (.aload_n 0, 1) := by decide +kernel
theorem d_JA_fill_3 : decode y_JA_fill.2.1 3 = .ok (.arraylength, 1) := by decide +kernel
theorem d_JA_fill_4 : decode y_JA_fill.2.1 4 = .ok (.istore_n 3, 1) := by decide +kernel
theorem d_JA_fill_5 : decode y_JA_fill.2.1 5 = .ok (.iload_n 2, 1) := by decide +kernel
theorem d_JA_fill_6 : decode y_JA_fill.2.1 6 = .ok (.iload_n 3, 1) := by decide +kernel
theorem d_JA_fill_7 : decode y_JA_fill.2.1 7 = .ok (.if_icmp .ge 13, 3) := by decide +kernel
theorem d_JA_fill_10 : decode y_JA_fill.2.1 10 = .ok (.aload_n 0, 1) := by decide +kernel
theorem d_JA_fill_11 : decode y_JA_fill.2.1 11 = .ok (.iload_n 2, 1) := by decide +kernel
theorem d_JA_fill_12 : decode y_JA_fill.2.1 12 = .ok (.iload_n 1, 1) := by decide +kernel
theorem d_JA_fill_13 : decode y_JA_fill.2.1 13 = .ok (.iastore, 1) := by decide +kernel
theorem d_JA_fill_14 : decode y_JA_fill.2.1 14 = .ok (.iinc 2 1, 3) := by decide +kernel
theorem d_JA_fill_17 : decode y_JA_fill.2.1 17 = .ok (.goto (-12), 3) := by decide +kernel
theorem d_JA_fill_20 : decode y_JA_fill.2.1 20 = .ok (.return_, 1) := by decide +kernel
theorem d_L_piece_0 : decode y_L_piece.2.1 0 = .ok (.aload_n 3, 1) := by decide +kernel
theorem d_L_piece_1 : decode y_L_piece.2.1 1 = .ok (.iconst 0, 1) := by decide +kernel
theorem d_L_piece_2 : decode y_L_piece.2.1 2 = .ok (.aload_n 0, 1) := by decide +kernel
theorem d_L_piece_3 : decode y_L_piece.2.1 3 = .ok (.iload_n 1, 1) := by decide +kernel
theorem d_L_piece_4 : decode y_L_piece.2.1 4 = .ok (.iload_n 2, 1) := by decide +kernel
theorem d_L_piece_5 : decode y_L_piece.2.1 5 = .ok (.invokevirtual 7, 3) := by decide +kernel
theorem d_L_piece_8 : decode y_L_piece.2.1 8 = .ok (.i2l, 1) := by decide +kernel
theorem d_L_piece_9 : decode y_L_piece.2.1 9 = .ok (.lastore, 1) := by decide +kernel
theorem d_L_piece_10 : decode y_L_piece.2.1 10 = .ok (.goto 7, 3) := by decide +kernel
theorem d_L_piece_13 : decode y_L_piece.2.1 13 = .ok (.astore 4, 2) := by decide +kernel
theorem d_L_piece_15 : decode y_L_piece.2.1 15 = .ok (.iconst 1, 1) := by decide +kernel
theorem d_L_piece_16 : decode y_L_piece.2.1 16 = .ok (.ireturn, 1) := by decide +kernel
theorem d_L_piece_17 : decode y_L_piece.2.1 17 = .ok (.iconst 0, 1) := by decide +kernel
theorem d_L_piece_18 : decode y_L_piece.2.1 18 = .ok (.ireturn, 1) := by decide +kernel
theorem d_L_way_0 : decode y_L_way.2.1 0 = .ok (.aload 6, 2) := by decide +kernel
theorem d_L_way_2 : decode y_L_way.2.1 2 = .ok (.iconst 0, 1) := by decide +kernel
theorem d_L_way_3 : decode y_L_way.2.1 3 = .ok (.aload_n 0, 1) := by decide +kernel
theorem d_L_way_4 : decode y_L_way.2.1 4 = .ok (.iload_n 1, 1) := by decide +kernel
theorem d_L_way_5 : decode y_L_way.2.1 5 = .ok (.iload_n 2, 1) := by decide +kernel
theorem d_L_way_6 : decode y_L_way.2.1 6 = .ok (.iload_n 3, 1) := by decide +kernel
theorem d_L_way_7 : decode y_L_way.2.1 7 = .ok (.iload 4, 2) := by decide +kernel
theorem d_L_way_9 : decode y_L_way.2.1 9 = .ok (.iload 5, 2) := by decide +kernel
theorem d_L_way_11 : decode y_L_way.2.1 11 = .ok (.invokevirtual 15, 3) := by decide +kernel
theorem d_L_way_14 : decode y_L_way.2.1 14 = .ok (.i2l, 1) := by decide +kernel
theorem d_L_way_15 : decode y_L_way.2.1 15 = .ok (.lastore, 1) := by decide +kernel
theorem d_L_way_16 : decode y_L_way.2.1 16 = .ok (.goto 11, 3) := by decide +kernel
theorem d_L_way_19 : decode y_L_way.2.1 19 = .ok (.astore 7, 2) := by decide +kernel
theorem d_L_way_21 : decode y_L_way.2.1 21 = .ok (.iconst 1, 1) := by decide +kernel
theorem d_L_way_22 : decode y_L_way.2.1 22 = .ok (.ireturn, 1) := by decide +kernel
theorem d_L_way_23 : decode y_L_way.2.1 23 = .ok (.astore 7, 2) := by decide +kernel
theorem d_L_way_25 : decode y_L_way.2.1 25 = .ok (.iconst 2, 1) := by decide +kernel
theorem d_L_way_26 : decode y_L_way.2.1 26 = .ok (.ireturn, 1) := by decide +kernel
theorem d_L_way_27 : decode y_L_way.2.1 27 = .ok (.iconst 0, 1) := by decide +kernel
theorem d_L_way_28 : decode y_L_way.2.1 28 = .ok (.ireturn, 1) := by decide +kernel
theorem d_L_water_0 : decode y_L_water.2.1 0 = .ok (.aload_n 3, 1) := by decide +kernel
theorem d_L_water_1 : decode y_L_water.2.1 1 = .ok (.iconst 0, 1) := by decide +kernel
theorem d_L_water_2 : decode y_L_water.2.1 2 = .ok (.aload_n 0, 1) := by decide +kernel
theorem d_L_water_3 : decode y_L_water.2.1 3 = .ok (.iload_n 1, 1) := by decide +kernel
theorem d_L_water_4 : decode y_L_water.2.1 4 = .ok (.iload_n 2, 1) := by decide +kernel
theorem d_L_water_5 : decode y_L_water.2.1 5 = .ok (.invokevirtual 21, 3) := by decide +kernel
theorem d_L_water_8 : decode y_L_water.2.1 8 = .ok (.i2l, 1) := by decide +kernel
theorem d_L_water_9 : decode y_L_water.2.1 9 = .ok (.lastore, 1) := by decide +kernel
theorem d_L_water_10 : decode y_L_water.2.1 10 = .ok (.goto 11, 3) := by decide +kernel
theorem d_L_water_13 : decode y_L_water.2.1 13 = .ok (.astore 4, 2) := by decide +kernel
theorem d_L_water_15 : decode y_L_water.2.1 15 = .ok (.iconst 1, 1) := by decide +kernel
theorem d_L_water_16 : decode y_L_water.2.1 16 = .ok (.ireturn, 1) := by decide +kernel
theorem d_L_water_17 : decode y_L_water.2.1 17 = .ok (.astore 4, 2) := by decide +kernel
theorem d_L_water_19 : decode y_L_water.2.1 19 = .ok (.iconst 2, 1) := by decide +kernel
theorem d_L_water_20 : decode y_L_water.2.1 20 = .ok (.ireturn, 1) := by decide +kernel
theorem d_L_water_21 : decode y_L_water.2.1 21 = .ok (.iconst 0, 1) := by decide +kernel
theorem d_L_water_22 : decode y_L_water.2.1 22 = .ok (.ireturn, 1) := by decide +kernel
theorem d_L_fire_0 : decode y_L_fire.2.1 0 = .ok (.aload 7, 2) := by decide +kernel
theorem d_L_fire_2 : decode y_L_fire.2.1 2 = .ok (.iconst 0, 1) := by decide +kernel
theorem d_L_fire_3 : decode y_L_fire.2.1 3 = .ok (.aload_n 0, 1) := by decide +kernel
theorem d_L_fire_4 : decode y_L_fire.2.1 4 = .ok (.iload_n 1, 1) := by decide +kernel
theorem d_L_fire_5 : decode y_L_fire.2.1 5 = .ok (.iload_n 2, 1) := by decide +kernel
theorem d_L_fire_6 : decode y_L_fire.2.1 6 = .ok (.iload_n 3, 1) := by decide +kernel
theorem d_L_fire_7 : decode y_L_fire.2.1 7 = .ok (.iload 4, 2) := by decide +kernel
theorem d_L_fire_9 : decode y_L_fire.2.1 9 = .ok (.iload 5, 2) := by decide +kernel
theorem d_L_fire_11 : decode y_L_fire.2.1 11 = .ok (.iload 6, 2) := by decide +kernel
theorem d_L_fire_13 : decode y_L_fire.2.1 13 = .ok (.invokevirtual 24, 3) := by decide +kernel
theorem d_L_fire_16 : decode y_L_fire.2.1 16 = .ok (.i2l, 1) := by decide +kernel
theorem d_L_fire_17 : decode y_L_fire.2.1 17 = .ok (.lastore, 1) := by decide +kernel
theorem d_L_fire_18 : decode y_L_fire.2.1 18 = .ok (.goto 11, 3) := by decide +kernel
theorem d_L_fire_21 : decode y_L_fire.2.1 21 = .ok (.astore 8, 2) := by decide +kernel
theorem d_L_fire_23 : decode y_L_fire.2.1 23 = .ok (.iconst 1, 1) := by decide +kernel
theorem d_L_fire_24 : decode y_L_fire.2.1 24 = .ok (.ireturn, 1) := by decide +kernel
theorem d_L_fire_25 : decode y_L_fire.2.1 25 = .ok (.astore 8, 2) := by decide +kernel
theorem d_L_fire_27 : decode y_L_fire.2.1 27 = .ok (.iconst 2, 1) := by decide +kernel
theorem d_L_fire_28 : decode y_L_fire.2.1 28 = .ok (.ireturn, 1) := by decide +kernel
theorem d_L_fire_29 : decode y_L_fire.2.1 29 = .ok (.iconst 0, 1) := by decide +kernel
theorem d_L_fire_30 : decode y_L_fire.2.1 30 = .ok (.ireturn, 1) := by decide +kernel
theorem d_L_fan_0 : decode y_L_fan.2.1 0 = .ok (.aload 5, 2) := by decide +kernel
theorem d_L_fan_2 : decode y_L_fan.2.1 2 = .ok (.iconst 0, 1) := by decide +kernel
theorem d_L_fan_3 : decode y_L_fan.2.1 3 = .ok (.aload_n 0, 1) := by decide +kernel
theorem d_L_fan_4 : decode y_L_fan.2.1 4 = .ok (.iload_n 1, 1) := by decide +kernel
theorem d_L_fan_5 : decode y_L_fan.2.1 5 = .ok (.iload_n 2, 1) := by decide +kernel
theorem d_L_fan_6 : decode y_L_fan.2.1 6 = .ok (.iload_n 3, 1) := by decide +kernel
theorem d_L_fan_7 : decode y_L_fan.2.1 7 = .ok (.iload 4, 2) := by decide +kernel
theorem d_L_fan_9 : decode y_L_fan.2.1 9 = .ok (.invokevirtual 28, 3) := by decide +kernel
theorem d_L_fan_12 : decode y_L_fan.2.1 12 = .ok (.i2l, 1) := by decide +kernel
theorem d_L_fan_13 : decode y_L_fan.2.1 13 = .ok (.lastore, 1) := by decide +kernel
theorem d_L_fan_14 : decode y_L_fan.2.1 14 = .ok (.goto 11, 3) := by decide +kernel
theorem d_L_fan_17 : decode y_L_fan.2.1 17 = .ok (.astore 6, 2) := by decide +kernel
theorem d_L_fan_19 : decode y_L_fan.2.1 19 = .ok (.iconst 1, 1) := by decide +kernel
theorem d_L_fan_20 : decode y_L_fan.2.1 20 = .ok (.ireturn, 1) := by decide +kernel
theorem d_L_fan_21 : decode y_L_fan.2.1 21 = .ok (.astore 6, 2) := by decide +kernel
theorem d_L_fan_23 : decode y_L_fan.2.1 23 = .ok (.iconst 2, 1) := by decide +kernel
theorem d_L_fan_24 : decode y_L_fan.2.1 24 = .ok (.ireturn, 1) := by decide +kernel
theorem d_L_fan_25 : decode y_L_fan.2.1 25 = .ok (.iconst 0, 1) := by decide +kernel
theorem d_L_fan_26 : decode y_L_fan.2.1 26 = .ok (.ireturn, 1) := by decide +kernel
theorem d_L_set_0 : decode y_L_set.2.1 0 = .ok (.aload 5, 2) := by decide +kernel
theorem d_L_set_2 : decode y_L_set.2.1 2 = .ok (.iconst 0, 1) := by decide +kernel
theorem d_L_set_3 : decode y_L_set.2.1 3 = .ok (.aload_n 0, 1) := by decide +kernel
theorem d_L_set_4 : decode y_L_set.2.1 4 = .ok (.iload_n 1, 1) := by decide +kernel
theorem d_L_set_5 : decode y_L_set.2.1 5 = .ok (.iload_n 2, 1) := by decide +kernel
theorem d_L_set_6 : decode y_L_set.2.1 6 = .ok (.iload_n 3, 1) := by decide +kernel
theorem d_L_set_7 : decode y_L_set.2.1 7 = .ok (.iload 4, 2) := by decide +kernel
theorem d_L_set_9 : decode y_L_set.2.1 9 = .ok (.invokevirtual 32, 3) := by decide +kernel
theorem d_L_set_12 : decode y_L_set.2.1 12 = .ok (.i2l, 1) := by decide +kernel
theorem d_L_set_13 : decode y_L_set.2.1 13 = .ok (.lastore, 1) := by decide +kernel
theorem d_L_set_14 : decode y_L_set.2.1 14 = .ok (.goto 11, 3) := by decide +kernel
theorem d_L_set_17 : decode y_L_set.2.1 17 = .ok (.astore 6, 2) := by decide +kernel
theorem d_L_set_19 : decode y_L_set.2.1 19 = .ok (.iconst 1, 1) := by decide +kernel
theorem d_L_set_20 : decode y_L_set.2.1 20 = .ok (.ireturn, 1) := by decide +kernel
theorem d_L_set_21 : decode y_L_set.2.1 21 = .ok (.astore 6, 2) := by decide +kernel
theorem d_L_set_23 : decode y_L_set.2.1 23 = .ok (.iconst 2, 1) := by decide +kernel
theorem d_L_set_24 : decode y_L_set.2.1 24 = .ok (.ireturn, 1) := by decide +kernel
theorem d_L_set_25 : decode y_L_set.2.1 25 = .ok (.iconst 0, 1) := by decide +kernel
theorem d_L_set_26 : decode y_L_set.2.1 26 = .ok (.ireturn, 1) := by decide +kernel
theorem d_L_eyes_0 : decode y_L_eyes.2.1 0 = .ok (.aload_n 2, 1) := by decide +kernel
theorem d_L_eyes_1 : decode y_L_eyes.2.1 1 = .ok (.iconst 0, 1) := by decide +kernel
theorem d_L_eyes_2 : decode y_L_eyes.2.1 2 = .ok (.aload_n 0, 1) := by decide +kernel
theorem d_L_eyes_3 : decode y_L_eyes.2.1 3 = .ok (.iload_n 1, 1) := by decide +kernel
theorem d_L_eyes_4 : decode y_L_eyes.2.1 4 = .ok (.invokevirtual 35, 3) := by decide +kernel
theorem d_L_eyes_7 : decode y_L_eyes.2.1 7 = .ok (.i2l, 1) := by decide +kernel
theorem d_L_eyes_8 : decode y_L_eyes.2.1 8 = .ok (.lastore, 1) := by decide +kernel
theorem d_L_eyes_9 : decode y_L_eyes.2.1 9 = .ok (.goto 6, 3) := by decide +kernel
theorem d_L_eyes_12 : decode y_L_eyes.2.1 12 = .ok (.astore_n 3, 1) := by decide +kernel
theorem d_L_eyes_13 : decode y_L_eyes.2.1 13 = .ok (.iconst 1, 1) := by decide +kernel
theorem d_L_eyes_14 : decode y_L_eyes.2.1 14 = .ok (.ireturn, 1) := by decide +kernel
theorem d_L_eyes_15 : decode y_L_eyes.2.1 15 = .ok (.iconst 0, 1) := by decide +kernel
theorem d_L_eyes_16 : decode y_L_eyes.2.1 16 = .ok (.ireturn, 1) := by decide +kernel
theorem d_L_group_0 : decode y_L_group.2.1 0 = .ok (.aload 4, 2) := by decide +kernel
theorem d_L_group_2 : decode y_L_group.2.1 2 = .ok (.iconst 0, 1) := by decide +kernel
theorem d_L_group_3 : decode y_L_group.2.1 3 = .ok (.aload_n 0, 1) := by decide +kernel
theorem d_L_group_4 : decode y_L_group.2.1 4 = .ok (.iload_n 1, 1) := by decide +kernel
theorem d_L_group_5 : decode y_L_group.2.1 5 = .ok (.iload_n 2, 1) := by decide +kernel
theorem d_L_group_6 : decode y_L_group.2.1 6 = .ok (.iload_n 3, 1) := by decide +kernel
theorem d_L_group_7 : decode y_L_group.2.1 7 = .ok (.invokevirtual 39, 3) := by decide +kernel
theorem d_L_group_10 : decode y_L_group.2.1 10 = .ok (.i2l, 1) := by decide +kernel
theorem d_L_group_11 : decode y_L_group.2.1 11 = .ok (.lastore, 1) := by decide +kernel
theorem d_L_group_12 : decode y_L_group.2.1 12 = .ok (.goto 11, 3) := by decide +kernel
theorem d_L_group_15 : decode y_L_group.2.1 15 = .ok (.astore 5, 2) := by decide +kernel
theorem d_L_group_17 : decode y_L_group.2.1 17 = .ok (.iconst 1, 1) := by decide +kernel
theorem d_L_group_18 : decode y_L_group.2.1 18 = .ok (.ireturn, 1) := by decide +kernel
theorem d_L_group_19 : decode y_L_group.2.1 19 = .ok (.astore 5, 2) := by decide +kernel
theorem d_L_group_21 : decode y_L_group.2.1 21 = .ok (.iconst 2, 1) := by decide +kernel
theorem d_L_group_22 : decode y_L_group.2.1 22 = .ok (.ireturn, 1) := by decide +kernel
theorem d_L_group_23 : decode y_L_group.2.1 23 = .ok (.iconst 0, 1) := by decide +kernel
theorem d_L_group_24 : decode y_L_group.2.1 24 = .ok (.ireturn, 1) := by decide +kernel
theorem d_L_walk_0 : decode y_L_walk.2.1 0 = .ok (.aload_n 2, 1) := by decide +kernel
theorem d_L_walk_1 : decode y_L_walk.2.1 1 = .ok (.iconst 0, 1) := by decide +kernel
theorem d_L_walk_2 : decode y_L_walk.2.1 2 = .ok (.aload_n 0, 1) := by decide +kernel
theorem d_L_walk_3 : decode y_L_walk.2.1 3 = .ok (.iload_n 1, 1) := by decide +kernel
theorem d_L_walk_4 : decode y_L_walk.2.1 4 = .ok (.invokevirtual 43, 3) := by decide +kernel
theorem d_L_walk_7 : decode y_L_walk.2.1 7 = .ok (.i2l, 1) := by decide +kernel
theorem d_L_walk_8 : decode y_L_walk.2.1 8 = .ok (.lastore, 1) := by decide +kernel
theorem d_L_walk_9 : decode y_L_walk.2.1 9 = .ok (.goto 6, 3) := by decide +kernel
theorem d_L_walk_12 : decode y_L_walk.2.1 12 = .ok (.astore_n 3, 1) := by decide +kernel
theorem d_L_walk_13 : decode y_L_walk.2.1 13 = .ok (.iconst 1, 1) := by decide +kernel
theorem d_L_walk_14 : decode y_L_walk.2.1 14 = .ok (.ireturn, 1) := by decide +kernel
theorem d_L_walk_15 : decode y_L_walk.2.1 15 = .ok (.iconst 0, 1) := by decide +kernel
theorem d_L_walk_16 : decode y_L_walk.2.1 16 = .ok (.ireturn, 1) := by decide +kernel
theorem d_L_door_0 : decode y_L_door.2.1 0 = .ok (.aload 4, 2) := by decide +kernel
theorem d_L_door_2 : decode y_L_door.2.1 2 = .ok (.iconst 0, 1) := by decide +kernel
theorem d_L_door_3 : decode y_L_door.2.1 3 = .ok (.aload_n 0, 1) := by decide +kernel
theorem d_L_door_4 : decode y_L_door.2.1 4 = .ok (.iload_n 1, 1) := by decide +kernel
theorem d_L_door_5 : decode y_L_door.2.1 5 = .ok (.iload_n 2, 1) := by decide +kernel
theorem d_L_door_6 : decode y_L_door.2.1 6 = .ok (.iload_n 3, 1) := by decide +kernel
theorem d_L_door_7 : decode y_L_door.2.1 7 = .ok (.invokevirtual 46, 3) := by decide +kernel
theorem d_L_door_10 : decode y_L_door.2.1 10 = .ok (.i2l, 1) := by decide +kernel
theorem d_L_door_11 : decode y_L_door.2.1 11 = .ok (.lastore, 1) := by decide +kernel
theorem d_L_door_12 : decode y_L_door.2.1 12 = .ok (.goto 11, 3) := by decide +kernel
theorem d_L_door_15 : decode y_L_door.2.1 15 = .ok (.astore 5, 2) := by decide +kernel
theorem d_L_door_17 : decode y_L_door.2.1 17 = .ok (.iconst 1, 1) := by decide +kernel
theorem d_L_door_18 : decode y_L_door.2.1 18 = .ok (.ireturn, 1) := by decide +kernel
theorem d_L_door_19 : decode y_L_door.2.1 19 = .ok (.astore 5, 2) := by decide +kernel
theorem d_L_door_21 : decode y_L_door.2.1 21 = .ok (.iconst 2, 1) := by decide +kernel
theorem d_L_door_22 : decode y_L_door.2.1 22 = .ok (.ireturn, 1) := by decide +kernel
theorem d_L_door_23 : decode y_L_door.2.1 23 = .ok (.iconst 0, 1) := by decide +kernel
theorem d_L_door_24 : decode y_L_door.2.1 24 = .ok (.ireturn, 1) := by decide +kernel
theorem d_L_make_0 : decode y_L_make.2.1 0 = .ok (.aload_n 3, 1) := by decide +kernel
theorem d_L_make_1 : decode y_L_make.2.1 1 = .ok (.iconst 0, 1) := by decide +kernel
theorem d_L_make_2 : decode y_L_make.2.1 2 = .ok (.aload_n 0, 1) := by decide +kernel
theorem d_L_make_3 : decode y_L_make.2.1 3 = .ok (.iload_n 1, 1) := by decide +kernel
theorem d_L_make_4 : decode y_L_make.2.1 4 = .ok (.iload_n 2, 1) := by decide +kernel
theorem d_L_make_5 : decode y_L_make.2.1 5 = .ok (.invokevirtual 49, 3) := by decide +kernel
theorem d_L_make_8 : decode y_L_make.2.1 8 = .ok (.ifCond .eq 7, 3) := by decide +kernel
theorem d_L_make_11 : decode y_L_make.2.1 11 = .ok (.lconst 1, 1) := by decide +kernel
theorem d_L_make_12 : decode y_L_make.2.1 12 = .ok (.goto 4, 3) := by decide +kernel
theorem d_L_make_15 : decode y_L_make.2.1 15 = .ok (.lconst 0, 1) := by decide +kernel
theorem d_L_make_16 : decode y_L_make.2.1 16 = .ok (.lastore, 1) := by decide +kernel
theorem d_L_make_17 : decode y_L_make.2.1 17 = .ok (.goto 7, 3) := by decide +kernel
theorem d_L_make_20 : decode y_L_make.2.1 20 = .ok (.astore 4, 2) := by decide +kernel
theorem d_L_make_22 : decode y_L_make.2.1 22 = .ok (.iconst 1, 1) := by decide +kernel
theorem d_L_make_23 : decode y_L_make.2.1 23 = .ok (.ireturn, 1) := by decide +kernel
theorem d_L_make_24 : decode y_L_make.2.1 24 = .ok (.iconst 0, 1) := by decide +kernel
theorem d_L_make_25 : decode y_L_make.2.1 25 = .ok (.ireturn, 1) := by decide +kernel
theorem d_L_gauges_0 : decode y_L_gauges.2.1 0 = .ok (.aload_n 0, 1) := by decide +kernel
theorem d_L_gauges_1 : decode y_L_gauges.2.1 1 = .ok (.iload_n 1, 1) := by decide +kernel
theorem d_L_gauges_2 : decode y_L_gauges.2.1 2 = .ok (.iload_n 2, 1) := by decide +kernel
theorem d_L_gauges_3 : decode y_L_gauges.2.1 3 = .ok (.iload_n 3, 1) := by decide +kernel
theorem d_L_gauges_4 : decode y_L_gauges.2.1 4 = .ok (.invokevirtual 53, 3) := by decide +kernel
theorem d_L_gauges_7 : decode y_L_gauges.2.1 7 = .ok (.goto 7, 3) := by decide +kernel
theorem d_L_gauges_10 : decode y_L_gauges.2.1 10 = .ok (.astore 4, 2) := by decide +kernel
theorem d_L_gauges_12 : decode y_L_gauges.2.1 12 = .ok (.iconst 1, 1) := by decide +kernel
theorem d_L_gauges_13 : decode y_L_gauges.2.1 13 = .ok (.ireturn, 1) := by decide +kernel
theorem d_L_gauges_14 : decode y_L_gauges.2.1 14 = .ok (.iconst 0, 1) := by decide +kernel
theorem d_L_gauges_15 : decode y_L_gauges.2.1 15 = .ok (.ireturn, 1) := by decide +kernel
theorem d_L_air_0 : decode y_L_air.2.1 0 = .ok (.aload 7, 2) := by decide +kernel
theorem d_L_air_2 : decode y_L_air.2.1 2 = .ok (.iconst 0, 1) := by decide +kernel
theorem d_L_air_3 : decode y_L_air.2.1 3 = .ok (.aload_n 0, 1) := by decide +kernel
theorem d_L_air_4 : decode y_L_air.2.1 4 = .ok (.iload_n 1, 1) := by decide +kernel
theorem d_L_air_5 : decode y_L_air.2.1 5 = .ok (.iload_n 2, 1) := by decide +kernel
theorem d_L_air_6 : decode y_L_air.2.1 6 = .ok (.iload_n 3, 1) := by decide +kernel
theorem d_L_air_7 : decode y_L_air.2.1 7 = .ok (.iload 4, 2) := by decide +kernel
theorem d_L_air_9 : decode y_L_air.2.1 9 = .ok (.iload 5, 2) := by decide +kernel
theorem d_L_air_11 : decode y_L_air.2.1 11 = .ok (.iload 6, 2) := by decide +kernel
theorem d_L_air_13 : decode y_L_air.2.1 13 = .ok (.invokevirtual 57, 3) := by decide +kernel
theorem d_L_air_16 : decode y_L_air.2.1 16 = .ok (.i2l, 1) := by decide +kernel
theorem d_L_air_17 : decode y_L_air.2.1 17 = .ok (.lastore, 1) := by decide +kernel
theorem d_L_air_18 : decode y_L_air.2.1 18 = .ok (.goto 11, 3) := by decide +kernel
theorem d_L_air_21 : decode y_L_air.2.1 21 = .ok (.astore 8, 2) := by decide +kernel
theorem d_L_air_23 : decode y_L_air.2.1 23 = .ok (.iconst 1, 1) := by decide +kernel
theorem d_L_air_24 : decode y_L_air.2.1 24 = .ok (.ireturn, 1) := by decide +kernel
theorem d_L_air_25 : decode y_L_air.2.1 25 = .ok (.astore 8, 2) := by decide +kernel
theorem d_L_air_27 : decode y_L_air.2.1 27 = .ok (.iconst 2, 1) := by decide +kernel
theorem d_L_air_28 : decode y_L_air.2.1 28 = .ok (.ireturn, 1) := by decide +kernel
theorem d_L_air_29 : decode y_L_air.2.1 29 = .ok (.iconst 0, 1) := by decide +kernel
theorem d_L_air_30 : decode y_L_air.2.1 30 = .ok (.ireturn, 1) := by decide +kernel
theorem d_L_smoke_0 : decode y_L_smoke.2.1 0 = .ok (.aload 8, 2) := by decide +kernel
theorem d_L_smoke_2 : decode y_L_smoke.2.1 2 = .ok (.iconst 0, 1) := by decide +kernel
theorem d_L_smoke_3 : decode y_L_smoke.2.1 3 = .ok (.aload_n 0, 1) := by decide +kernel
theorem d_L_smoke_4 : decode y_L_smoke.2.1 4 = .ok (.iload_n 1, 1) := by decide +kernel
theorem d_L_smoke_5 : decode y_L_smoke.2.1 5 = .ok (.iload_n 2, 1) := by decide +kernel
theorem d_L_smoke_6 : decode y_L_smoke.2.1 6 = .ok (.iload_n 3, 1) := by decide +kernel
theorem d_L_smoke_7 : decode y_L_smoke.2.1 7 = .ok (.iload 4, 2) := by decide +kernel
theorem d_L_smoke_9 : decode y_L_smoke.2.1 9 = .ok (.iload 5, 2) := by decide +kernel
theorem d_L_smoke_11 : decode y_L_smoke.2.1 11 = .ok (.iload 6, 2) := by decide +kernel
theorem d_L_smoke_13 : decode y_L_smoke.2.1 13 = .ok (.iload 7, 2) := by decide +kernel
theorem d_L_smoke_15 : decode y_L_smoke.2.1 15 = .ok (.invokevirtual 60, 3) := by decide +kernel
theorem d_L_smoke_18 : decode y_L_smoke.2.1 18 = .ok (.lastore, 1) := by decide +kernel
theorem d_L_smoke_19 : decode y_L_smoke.2.1 19 = .ok (.goto 11, 3) := by decide +kernel
theorem d_L_smoke_22 : decode y_L_smoke.2.1 22 = .ok (.astore 9, 2) := by decide +kernel
theorem d_L_smoke_24 : decode y_L_smoke.2.1 24 = .ok (.iconst 1, 1) := by decide +kernel
theorem d_L_smoke_25 : decode y_L_smoke.2.1 25 = .ok (.ireturn, 1) := by decide +kernel
theorem d_L_smoke_26 : decode y_L_smoke.2.1 26 = .ok (.astore 9, 2) := by decide +kernel
theorem d_L_smoke_28 : decode y_L_smoke.2.1 28 = .ok (.iconst 2, 1) := by decide +kernel
theorem d_L_smoke_29 : decode y_L_smoke.2.1 29 = .ok (.ireturn, 1) := by decide +kernel
theorem d_L_smoke_30 : decode y_L_smoke.2.1 30 = .ok (.iconst 0, 1) := by decide +kernel
theorem d_L_smoke_31 : decode y_L_smoke.2.1 31 = .ok (.ireturn, 1) := by decide +kernel
theorem d_L_given_0 : decode y_L_given.2.1 0 = .ok (.aload 7, 2) := by decide +kernel
theorem d_L_given_2 : decode y_L_given.2.1 2 = .ok (.iconst 0, 1) := by decide +kernel
theorem d_L_given_3 : decode y_L_given.2.1 3 = .ok (.aload_n 0, 1) := by decide +kernel
theorem d_L_given_4 : decode y_L_given.2.1 4 = .ok (.iload_n 1, 1) := by decide +kernel
theorem d_L_given_5 : decode y_L_given.2.1 5 = .ok (.iload_n 2, 1) := by decide +kernel
theorem d_L_given_6 : decode y_L_given.2.1 6 = .ok (.iload_n 3, 1) := by decide +kernel
theorem d_L_given_7 : decode y_L_given.2.1 7 = .ok (.iload 4, 2) := by decide +kernel
theorem d_L_given_9 : decode y_L_given.2.1 9 = .ok (.iload 5, 2) := by decide +kernel
theorem d_L_given_11 : decode y_L_given.2.1 11 = .ok (.iload 6, 2) := by decide +kernel
theorem d_L_given_13 : decode y_L_given.2.1 13 = .ok (.invokevirtual 64, 3) := by decide +kernel
theorem d_L_given_16 : decode y_L_given.2.1 16 = .ok (.lastore, 1) := by decide +kernel
theorem d_L_given_17 : decode y_L_given.2.1 17 = .ok (.goto 11, 3) := by decide +kernel
theorem d_L_given_20 : decode y_L_given.2.1 20 = .ok (.astore 8, 2) := by decide +kernel
theorem d_L_given_22 : decode y_L_given.2.1 22 = .ok (.iconst 1, 1) := by decide +kernel
theorem d_L_given_23 : decode y_L_given.2.1 23 = .ok (.ireturn, 1) := by decide +kernel
theorem d_L_given_24 : decode y_L_given.2.1 24 = .ok (.astore 8, 2) := by decide +kernel
theorem d_L_given_26 : decode y_L_given.2.1 26 = .ok (.iconst 2, 1) := by decide +kernel
theorem d_L_given_27 : decode y_L_given.2.1 27 = .ok (.ireturn, 1) := by decide +kernel
theorem d_L_given_28 : decode y_L_given.2.1 28 = .ok (.iconst 0, 1) := by decide +kernel
theorem d_L_given_29 : decode y_L_given.2.1 29 = .ok (.ireturn, 1) := by decide +kernel
theorem d_L_lost_0 : decode y_L_lost.2.1 0 = .ok (.aload 6, 2) := by decide +kernel
theorem d_L_lost_2 : decode y_L_lost.2.1 2 = .ok (.iconst 0, 1) := by decide +kernel
theorem d_L_lost_3 : decode y_L_lost.2.1 3 = .ok (.aload_n 0, 1) := by decide +kernel
theorem d_L_lost_4 : decode y_L_lost.2.1 4 = .ok (.iload_n 1, 1) := by decide +kernel
theorem d_L_lost_5 : decode y_L_lost.2.1 5 = .ok (.iload_n 2, 1) := by decide +kernel
theorem d_L_lost_6 : decode y_L_lost.2.1 6 = .ok (.iload_n 3, 1) := by decide +kernel
theorem d_L_lost_7 : decode y_L_lost.2.1 7 = .ok (.iload 4, 2) := by decide +kernel
theorem d_L_lost_9 : decode y_L_lost.2.1 9 = .ok (.iload 5, 2) := by decide +kernel
theorem d_L_lost_11 : decode y_L_lost.2.1 11 = .ok (.invokevirtual 68, 3) := by decide +kernel
theorem d_L_lost_14 : decode y_L_lost.2.1 14 = .ok (.i2l, 1) := by decide +kernel
theorem d_L_lost_15 : decode y_L_lost.2.1 15 = .ok (.lastore, 1) := by decide +kernel
theorem d_L_lost_16 : decode y_L_lost.2.1 16 = .ok (.goto 11, 3) := by decide +kernel
theorem d_L_lost_19 : decode y_L_lost.2.1 19 = .ok (.astore 7, 2) := by decide +kernel
theorem d_L_lost_21 : decode y_L_lost.2.1 21 = .ok (.iconst 1, 1) := by decide +kernel
theorem d_L_lost_22 : decode y_L_lost.2.1 22 = .ok (.ireturn, 1) := by decide +kernel
theorem d_L_lost_23 : decode y_L_lost.2.1 23 = .ok (.astore 7, 2) := by decide +kernel
theorem d_L_lost_25 : decode y_L_lost.2.1 25 = .ok (.iconst 2, 1) := by decide +kernel
theorem d_L_lost_26 : decode y_L_lost.2.1 26 = .ok (.ireturn, 1) := by decide +kernel
theorem d_L_lost_27 : decode y_L_lost.2.1 27 = .ok (.iconst 0, 1) := by decide +kernel
theorem d_L_lost_28 : decode y_L_lost.2.1 28 = .ok (.ireturn, 1) := by decide +kernel
theorem d_L_shut_0 : decode y_L_shut.2.1 0 = .ok (.aload 7, 2) := by decide +kernel
theorem d_L_shut_2 : decode y_L_shut.2.1 2 = .ok (.iconst 0, 1) := by decide +kernel
theorem d_L_shut_3 : decode y_L_shut.2.1 3 = .ok (.aload_n 0, 1) := by decide +kernel
theorem d_L_shut_4 : decode y_L_shut.2.1 4 = .ok (.iload_n 1, 1) := by decide +kernel
theorem d_L_shut_5 : decode y_L_shut.2.1 5 = .ok (.iload_n 2, 1) := by decide +kernel
theorem d_L_shut_6 : decode y_L_shut.2.1 6 = .ok (.iload_n 3, 1) := by decide +kernel
theorem d_L_shut_7 : decode y_L_shut.2.1 7 = .ok (.iload 4, 2) := by decide +kernel
theorem d_L_shut_9 : decode y_L_shut.2.1 9 = .ok (.iload 5, 2) := by decide +kernel
theorem d_L_shut_11 : decode y_L_shut.2.1 11 = .ok (.iload 6, 2) := by decide +kernel
theorem d_L_shut_13 : decode y_L_shut.2.1 13 = .ok (.invokevirtual 71, 3) := by decide +kernel
theorem d_L_shut_16 : decode y_L_shut.2.1 16 = .ok (.ifCond .eq 7, 3) := by decide +kernel
theorem d_L_shut_19 : decode y_L_shut.2.1 19 = .ok (.lconst 1, 1) := by decide +kernel
theorem d_L_shut_20 : decode y_L_shut.2.1 20 = .ok (.goto 4, 3) := by decide +kernel
theorem d_L_shut_23 : decode y_L_shut.2.1 23 = .ok (.lconst 0, 1) := by decide +kernel
theorem d_L_shut_24 : decode y_L_shut.2.1 24 = .ok (.lastore, 1) := by decide +kernel
theorem d_L_shut_25 : decode y_L_shut.2.1 25 = .ok (.goto 11, 3) := by decide +kernel
theorem d_L_shut_28 : decode y_L_shut.2.1 28 = .ok (.astore 8, 2) := by decide +kernel
theorem d_L_shut_30 : decode y_L_shut.2.1 30 = .ok (.iconst 1, 1) := by decide +kernel
theorem d_L_shut_31 : decode y_L_shut.2.1 31 = .ok (.ireturn, 1) := by decide +kernel
theorem d_L_shut_32 : decode y_L_shut.2.1 32 = .ok (.astore 8, 2) := by decide +kernel
theorem d_L_shut_34 : decode y_L_shut.2.1 34 = .ok (.iconst 2, 1) := by decide +kernel
theorem d_L_shut_35 : decode y_L_shut.2.1 35 = .ok (.ireturn, 1) := by decide +kernel
theorem d_L_shut_36 : decode y_L_shut.2.1 36 = .ok (.iconst 0, 1) := by decide +kernel
theorem d_L_shut_37 : decode y_L_shut.2.1 37 = .ok (.ireturn, 1) := by decide +kernel
theorem d_L_out_0 : decode y_L_out.2.1 0 = .ok (.aload 6, 2) := by decide +kernel
theorem d_L_out_2 : decode y_L_out.2.1 2 = .ok (.iconst 0, 1) := by decide +kernel
theorem d_L_out_3 : decode y_L_out.2.1 3 = .ok (.aload_n 0, 1) := by decide +kernel
theorem d_L_out_4 : decode y_L_out.2.1 4 = .ok (.iload_n 1, 1) := by decide +kernel
theorem d_L_out_5 : decode y_L_out.2.1 5 = .ok (.iload_n 2, 1) := by decide +kernel
theorem d_L_out_6 : decode y_L_out.2.1 6 = .ok (.iload_n 3, 1) := by decide +kernel
theorem d_L_out_7 : decode y_L_out.2.1 7 = .ok (.iload 4, 2) := by decide +kernel
theorem d_L_out_9 : decode y_L_out.2.1 9 = .ok (.iload 5, 2) := by decide +kernel
theorem d_L_out_11 : decode y_L_out.2.1 11 = .ok (.invokevirtual 75, 3) := by decide +kernel
theorem d_L_out_14 : decode y_L_out.2.1 14 = .ok (.i2l, 1) := by decide +kernel
theorem d_L_out_15 : decode y_L_out.2.1 15 = .ok (.lastore, 1) := by decide +kernel
theorem d_L_out_16 : decode y_L_out.2.1 16 = .ok (.goto 11, 3) := by decide +kernel
theorem d_L_out_19 : decode y_L_out.2.1 19 = .ok (.astore 7, 2) := by decide +kernel
theorem d_L_out_21 : decode y_L_out.2.1 21 = .ok (.iconst 1, 1) := by decide +kernel
theorem d_L_out_22 : decode y_L_out.2.1 22 = .ok (.ireturn, 1) := by decide +kernel
theorem d_L_out_23 : decode y_L_out.2.1 23 = .ok (.astore 7, 2) := by decide +kernel
theorem d_L_out_25 : decode y_L_out.2.1 25 = .ok (.iconst 2, 1) := by decide +kernel
theorem d_L_out_26 : decode y_L_out.2.1 26 = .ok (.ireturn, 1) := by decide +kernel
theorem d_L_out_27 : decode y_L_out.2.1 27 = .ok (.iconst 0, 1) := by decide +kernel
theorem d_L_out_28 : decode y_L_out.2.1 28 = .ok (.ireturn, 1) := by decide +kernel
theorem d_L_all_0 : decode y_L_all.2.1 0 = .ok (.aload 5, 2) := by decide +kernel
theorem d_L_all_2 : decode y_L_all.2.1 2 = .ok (.iconst 0, 1) := by decide +kernel
theorem d_L_all_3 : decode y_L_all.2.1 3 = .ok (.aload_n 0, 1) := by decide +kernel
theorem d_L_all_4 : decode y_L_all.2.1 4 = .ok (.iload_n 1, 1) := by decide +kernel
theorem d_L_all_5 : decode y_L_all.2.1 5 = .ok (.iload_n 2, 1) := by decide +kernel
theorem d_L_all_6 : decode y_L_all.2.1 6 = .ok (.iload_n 3, 1) := by decide +kernel
theorem d_L_all_7 : decode y_L_all.2.1 7 = .ok (.iload 4, 2) := by decide +kernel
theorem d_L_all_9 : decode y_L_all.2.1 9 = .ok (.invokevirtual 78, 3) := by decide +kernel
theorem d_L_all_12 : decode y_L_all.2.1 12 = .ok (.i2l, 1) := by decide +kernel
theorem d_L_all_13 : decode y_L_all.2.1 13 = .ok (.lastore, 1) := by decide +kernel
theorem d_L_all_14 : decode y_L_all.2.1 14 = .ok (.goto 11, 3) := by decide +kernel
theorem d_L_all_17 : decode y_L_all.2.1 17 = .ok (.astore 6, 2) := by decide +kernel
theorem d_L_all_19 : decode y_L_all.2.1 19 = .ok (.iconst 1, 1) := by decide +kernel
theorem d_L_all_20 : decode y_L_all.2.1 20 = .ok (.ireturn, 1) := by decide +kernel
theorem d_L_all_21 : decode y_L_all.2.1 21 = .ok (.astore 6, 2) := by decide +kernel
theorem d_L_all_23 : decode y_L_all.2.1 23 = .ok (.iconst 2, 1) := by decide +kernel
theorem d_L_all_24 : decode y_L_all.2.1 24 = .ok (.ireturn, 1) := by decide +kernel
theorem d_L_all_25 : decode y_L_all.2.1 25 = .ok (.iconst 0, 1) := by decide +kernel
theorem d_L_all_26 : decode y_L_all.2.1 26 = .ok (.ireturn, 1) := by decide +kernel
theorem d_L_side_0 : decode y_L_side.2.1 0 = .ok (.aload 7, 2) := by decide +kernel
theorem d_L_side_2 : decode y_L_side.2.1 2 = .ok (.iconst 0, 1) := by decide +kernel
theorem d_L_side_3 : decode y_L_side.2.1 3 = .ok (.aload_n 0, 1) := by decide +kernel
theorem d_L_side_4 : decode y_L_side.2.1 4 = .ok (.iload_n 1, 1) := by decide +kernel
theorem d_L_side_5 : decode y_L_side.2.1 5 = .ok (.iload_n 2, 1) := by decide +kernel
theorem d_L_side_6 : decode y_L_side.2.1 6 = .ok (.iload_n 3, 1) := by decide +kernel
theorem d_L_side_7 : decode y_L_side.2.1 7 = .ok (.iload 4, 2) := by decide +kernel
theorem d_L_side_9 : decode y_L_side.2.1 9 = .ok (.iload 5, 2) := by decide +kernel
theorem d_L_side_11 : decode y_L_side.2.1 11 = .ok (.iload 6, 2) := by decide +kernel
theorem d_L_side_13 : decode y_L_side.2.1 13 = .ok (.invokevirtual 81, 3) := by decide +kernel
theorem d_L_side_16 : decode y_L_side.2.1 16 = .ok (.i2l, 1) := by decide +kernel
theorem d_L_side_17 : decode y_L_side.2.1 17 = .ok (.lastore, 1) := by decide +kernel
theorem d_L_side_18 : decode y_L_side.2.1 18 = .ok (.goto 11, 3) := by decide +kernel
theorem d_L_side_21 : decode y_L_side.2.1 21 = .ok (.astore 8, 2) := by decide +kernel
theorem d_L_side_23 : decode y_L_side.2.1 23 = .ok (.iconst 1, 1) := by decide +kernel
theorem d_L_side_24 : decode y_L_side.2.1 24 = .ok (.ireturn, 1) := by decide +kernel
theorem d_L_side_25 : decode y_L_side.2.1 25 = .ok (.astore 8, 2) := by decide +kernel
theorem d_L_side_27 : decode y_L_side.2.1 27 = .ok (.iconst 2, 1) := by decide +kernel
theorem d_L_side_28 : decode y_L_side.2.1 28 = .ok (.ireturn, 1) := by decide +kernel
theorem d_L_side_29 : decode y_L_side.2.1 29 = .ok (.iconst 0, 1) := by decide +kernel
theorem d_L_side_30 : decode y_L_side.2.1 30 = .ok (.ireturn, 1) := by decide +kernel
theorem d_L_worth_0 : decode y_L_worth.2.1 0 = .ok (.aload 7, 2) := by decide +kernel
theorem d_L_worth_2 : decode y_L_worth.2.1 2 = .ok (.iconst 0, 1) := by decide +kernel
theorem d_L_worth_3 : decode y_L_worth.2.1 3 = .ok (.aload_n 0, 1) := by decide +kernel
theorem d_L_worth_4 : decode y_L_worth.2.1 4 = .ok (.iload_n 1, 1) := by decide +kernel
theorem d_L_worth_5 : decode y_L_worth.2.1 5 = .ok (.iload_n 2, 1) := by decide +kernel
theorem d_L_worth_6 : decode y_L_worth.2.1 6 = .ok (.iload_n 3, 1) := by decide +kernel
theorem d_L_worth_7 : decode y_L_worth.2.1 7 = .ok (.iload 4, 2) := by decide +kernel
theorem d_L_worth_9 : decode y_L_worth.2.1 9 = .ok (.iload 5, 2) := by decide +kernel
theorem d_L_worth_11 : decode y_L_worth.2.1 11 = .ok (.iload 6, 2) := by decide +kernel
theorem d_L_worth_13 : decode y_L_worth.2.1 13 = .ok (.invokevirtual 84, 3) := by decide +kernel
theorem d_L_worth_16 : decode y_L_worth.2.1 16 = .ok (.i2l, 1) := by decide +kernel
theorem d_L_worth_17 : decode y_L_worth.2.1 17 = .ok (.lastore, 1) := by decide +kernel
theorem d_L_worth_18 : decode y_L_worth.2.1 18 = .ok (.goto 19, 3) := by decide +kernel
theorem d_L_worth_21 : decode y_L_worth.2.1 21 = .ok (.astore 8, 2) := by decide +kernel
theorem d_L_worth_23 : decode y_L_worth.2.1 23 = .ok (.iconst 1, 1) := by decide +kernel
theorem d_L_worth_24 : decode y_L_worth.2.1 24 = .ok (.ireturn, 1) := by decide +kernel
theorem d_L_worth_25 : decode y_L_worth.2.1 25 = .ok (.astore 8, 2) := by decide +kernel
theorem d_L_worth_27 : decode y_L_worth.2.1 27 = .ok (.iconst 2, 1) := by decide +kernel
theorem d_L_worth_28 : decode y_L_worth.2.1 28 = .ok (.ireturn, 1) := by decide +kernel
theorem d_L_worth_29 : decode y_L_worth.2.1 29 = .ok (.astore 8, 2) := by decide +kernel
theorem d_L_worth_31 : decode y_L_worth.2.1 31 = .ok (.iconst 3, 1) := by decide +kernel
theorem d_L_worth_32 : decode y_L_worth.2.1 32 = .ok (.ireturn, 1) := by decide +kernel
theorem d_L_worth_33 : decode y_L_worth.2.1 33 = .ok (.astore 8, 2) := by decide +kernel
theorem d_L_worth_35 : decode y_L_worth.2.1 35 = .ok (.iconst 4, 1) := by decide +kernel
theorem d_L_worth_36 : decode y_L_worth.2.1 36 = .ok (.ireturn, 1) := by decide +kernel
theorem d_L_worth_37 : decode y_L_worth.2.1 37 = .ok (.iconst 0, 1) := by decide +kernel
theorem d_L_worth_38 : decode y_L_worth.2.1 38 = .ok (.ireturn, 1) := by decide +kernel
theorem d_L_fewest_0 : decode y_L_fewest.2.1 0 = .ok (.aload 4, 2) := by decide +kernel
theorem d_L_fewest_2 : decode y_L_fewest.2.1 2 = .ok (.iconst 0, 1) := by decide +kernel
theorem d_L_fewest_3 : decode y_L_fewest.2.1 3 = .ok (.aload_n 0, 1) := by decide +kernel
theorem d_L_fewest_4 : decode y_L_fewest.2.1 4 = .ok (.iload_n 1, 1) := by decide +kernel
theorem d_L_fewest_5 : decode y_L_fewest.2.1 5 = .ok (.iload_n 2, 1) := by decide +kernel
theorem d_L_fewest_6 : decode y_L_fewest.2.1 6 = .ok (.iload_n 3, 1) := by decide +kernel
theorem d_L_fewest_7 : decode y_L_fewest.2.1 7 = .ok (.invokevirtual 91, 3) := by decide +kernel
theorem d_L_fewest_10 : decode y_L_fewest.2.1 10 = .ok (.i2l, 1) := by decide +kernel
theorem d_L_fewest_11 : decode y_L_fewest.2.1 11 = .ok (.lastore, 1) := by decide +kernel
theorem d_L_fewest_12 : decode y_L_fewest.2.1 12 = .ok (.goto 7, 3) := by decide +kernel
theorem d_L_fewest_15 : decode y_L_fewest.2.1 15 = .ok (.astore 5, 2) := by decide +kernel
theorem d_L_fewest_17 : decode y_L_fewest.2.1 17 = .ok (.iconst 1, 1) := by decide +kernel
theorem d_L_fewest_18 : decode y_L_fewest.2.1 18 = .ok (.ireturn, 1) := by decide +kernel
theorem d_L_fewest_19 : decode y_L_fewest.2.1 19 = .ok (.iconst 0, 1) := by decide +kernel
theorem d_L_fewest_20 : decode y_L_fewest.2.1 20 = .ok (.ireturn, 1) := by decide +kernel
theorem d_L_alike_0 : decode y_L_alike.2.1 0 = .ok (.aload 5, 2) := by decide +kernel
theorem d_L_alike_2 : decode y_L_alike.2.1 2 = .ok (.iconst 0, 1) := by decide +kernel
theorem d_L_alike_3 : decode y_L_alike.2.1 3 = .ok (.aload_n 0, 1) := by decide +kernel
theorem d_L_alike_4 : decode y_L_alike.2.1 4 = .ok (.iload_n 1, 1) := by decide +kernel
theorem d_L_alike_5 : decode y_L_alike.2.1 5 = .ok (.iload_n 2, 1) := by decide +kernel
theorem d_L_alike_6 : decode y_L_alike.2.1 6 = .ok (.iload_n 3, 1) := by decide +kernel
theorem d_L_alike_7 : decode y_L_alike.2.1 7 = .ok (.iload 4, 2) := by decide +kernel
theorem d_L_alike_9 : decode y_L_alike.2.1 9 = .ok (.invokevirtual 94, 3) := by decide +kernel
theorem d_L_alike_12 : decode y_L_alike.2.1 12 = .ok (.ifCond .eq 7, 3) := by decide +kernel
theorem d_L_alike_15 : decode y_L_alike.2.1 15 = .ok (.lconst 1, 1) := by decide +kernel
theorem d_L_alike_16 : decode y_L_alike.2.1 16 = .ok (.goto 4, 3) := by decide +kernel
theorem d_L_alike_19 : decode y_L_alike.2.1 19 = .ok (.lconst 0, 1) := by decide +kernel
theorem d_L_alike_20 : decode y_L_alike.2.1 20 = .ok (.lastore, 1) := by decide +kernel
theorem d_L_alike_21 : decode y_L_alike.2.1 21 = .ok (.goto 11, 3) := by decide +kernel
theorem d_L_alike_24 : decode y_L_alike.2.1 24 = .ok (.astore 6, 2) := by decide +kernel
theorem d_L_alike_26 : decode y_L_alike.2.1 26 = .ok (.iconst 1, 1) := by decide +kernel
theorem d_L_alike_27 : decode y_L_alike.2.1 27 = .ok (.ireturn, 1) := by decide +kernel
theorem d_L_alike_28 : decode y_L_alike.2.1 28 = .ok (.astore 6, 2) := by decide +kernel
theorem d_L_alike_30 : decode y_L_alike.2.1 30 = .ok (.iconst 2, 1) := by decide +kernel
theorem d_L_alike_31 : decode y_L_alike.2.1 31 = .ok (.ireturn, 1) := by decide +kernel
theorem d_L_alike_32 : decode y_L_alike.2.1 32 = .ok (.iconst 0, 1) := by decide +kernel
theorem d_L_alike_33 : decode y_L_alike.2.1 33 = .ok (.ireturn, 1) := by decide +kernel
theorem d_L_regret_0 : decode y_L_regret.2.1 0 = .ok (.aload 6, 2) := by decide +kernel
theorem d_L_regret_2 : decode y_L_regret.2.1 2 = .ok (.iconst 0, 1) := by decide +kernel
theorem d_L_regret_3 : decode y_L_regret.2.1 3 = .ok (.aload_n 0, 1) := by decide +kernel
theorem d_L_regret_4 : decode y_L_regret.2.1 4 = .ok (.iload_n 1, 1) := by decide +kernel
theorem d_L_regret_5 : decode y_L_regret.2.1 5 = .ok (.iload_n 2, 1) := by decide +kernel
theorem d_L_regret_6 : decode y_L_regret.2.1 6 = .ok (.iload_n 3, 1) := by decide +kernel
theorem d_L_regret_7 : decode y_L_regret.2.1 7 = .ok (.iload 4, 2) := by decide +kernel
theorem d_L_regret_9 : decode y_L_regret.2.1 9 = .ok (.iload 5, 2) := by decide +kernel
theorem d_L_regret_11 : decode y_L_regret.2.1 11 = .ok (.invokevirtual 98, 3) := by decide +kernel
theorem d_L_regret_14 : decode y_L_regret.2.1 14 = .ok (.i2l, 1) := by decide +kernel
theorem d_L_regret_15 : decode y_L_regret.2.1 15 = .ok (.lastore, 1) := by decide +kernel
theorem d_L_regret_16 : decode y_L_regret.2.1 16 = .ok (.goto 11, 3) := by decide +kernel
theorem d_L_regret_19 : decode y_L_regret.2.1 19 = .ok (.astore 7, 2) := by decide +kernel
theorem d_L_regret_21 : decode y_L_regret.2.1 21 = .ok (.iconst 1, 1) := by decide +kernel
theorem d_L_regret_22 : decode y_L_regret.2.1 22 = .ok (.ireturn, 1) := by decide +kernel
theorem d_L_regret_23 : decode y_L_regret.2.1 23 = .ok (.astore 7, 2) := by decide +kernel
theorem d_L_regret_25 : decode y_L_regret.2.1 25 = .ok (.iconst 2, 1) := by decide +kernel
theorem d_L_regret_26 : decode y_L_regret.2.1 26 = .ok (.ireturn, 1) := by decide +kernel
theorem d_L_regret_27 : decode y_L_regret.2.1 27 = .ok (.iconst 0, 1) := by decide +kernel
theorem d_L_regret_28 : decode y_L_regret.2.1 28 = .ok (.ireturn, 1) := by decide +kernel
theorem d_L_turn_0 : decode y_L_turn.2.1 0 = .ok (.aload 4, 2) := by decide +kernel
theorem d_L_turn_2 : decode y_L_turn.2.1 2 = .ok (.iconst 0, 1) := by decide +kernel
theorem d_L_turn_3 : decode y_L_turn.2.1 3 = .ok (.aload_n 0, 1) := by decide +kernel
theorem d_L_turn_4 : decode y_L_turn.2.1 4 = .ok (.iload_n 1, 1) := by decide +kernel
theorem d_L_turn_5 : decode y_L_turn.2.1 5 = .ok (.iload_n 2, 1) := by decide +kernel
theorem d_L_turn_6 : decode y_L_turn.2.1 6 = .ok (.iload_n 3, 1) := by decide +kernel
theorem d_L_turn_7 : decode y_L_turn.2.1 7 = .ok (.invokevirtual 101, 3) := by decide +kernel
theorem d_L_turn_10 : decode y_L_turn.2.1 10 = .ok (.i2l, 1) := by decide +kernel
theorem d_L_turn_11 : decode y_L_turn.2.1 11 = .ok (.lastore, 1) := by decide +kernel
theorem d_L_turn_12 : decode y_L_turn.2.1 12 = .ok (.goto 11, 3) := by decide +kernel
theorem d_L_turn_15 : decode y_L_turn.2.1 15 = .ok (.astore 5, 2) := by decide +kernel
theorem d_L_turn_17 : decode y_L_turn.2.1 17 = .ok (.iconst 1, 1) := by decide +kernel
theorem d_L_turn_18 : decode y_L_turn.2.1 18 = .ok (.ireturn, 1) := by decide +kernel
theorem d_L_turn_19 : decode y_L_turn.2.1 19 = .ok (.astore 5, 2) := by decide +kernel
theorem d_L_turn_21 : decode y_L_turn.2.1 21 = .ok (.iconst 2, 1) := by decide +kernel
theorem d_L_turn_22 : decode y_L_turn.2.1 22 = .ok (.ireturn, 1) := by decide +kernel
theorem d_L_turn_23 : decode y_L_turn.2.1 23 = .ok (.iconst 0, 1) := by decide +kernel
theorem d_L_turn_24 : decode y_L_turn.2.1 24 = .ok (.ireturn, 1) := by decide +kernel
theorem d_L_turnTo_0 : decode y_L_turnTo.2.1 0 = .ok (.aload 5, 2) := by decide +kernel
theorem d_L_turnTo_2 : decode y_L_turnTo.2.1 2 = .ok (.iconst 0, 1) := by decide +kernel
theorem d_L_turnTo_3 : decode y_L_turnTo.2.1 3 = .ok (.aload_n 0, 1) := by decide +kernel
theorem d_L_turnTo_4 : decode y_L_turnTo.2.1 4 = .ok (.iload_n 1, 1) := by decide +kernel
theorem d_L_turnTo_5 : decode y_L_turnTo.2.1 5 = .ok (.iload_n 2, 1) := by decide +kernel
theorem d_L_turnTo_6 : decode y_L_turnTo.2.1 6 = .ok (.iload_n 3, 1) := by decide +kernel
theorem d_L_turnTo_7 : decode y_L_turnTo.2.1 7 = .ok (.iload 4, 2) := by decide +kernel
theorem d_L_turnTo_9 : decode y_L_turnTo.2.1 9 = .ok (.invokevirtual 104, 3) := by decide +kernel
theorem d_L_turnTo_12 : decode y_L_turnTo.2.1 12 = .ok (.i2l, 1) := by decide +kernel
theorem d_L_turnTo_13 : decode y_L_turnTo.2.1 13 = .ok (.lastore, 1) := by decide +kernel
theorem d_L_turnTo_14 : decode y_L_turnTo.2.1 14 = .ok (.goto 11, 3) := by decide +kernel
theorem d_L_turnTo_17 : decode y_L_turnTo.2.1 17 = .ok (.astore 6, 2) := by decide +kernel
theorem d_L_turnTo_19 : decode y_L_turnTo.2.1 19 = .ok (.iconst 1, 1) := by decide +kernel
theorem d_L_turnTo_20 : decode y_L_turnTo.2.1 20 = .ok (.ireturn, 1) := by decide +kernel
theorem d_L_turnTo_21 : decode y_L_turnTo.2.1 21 = .ok (.astore 6, 2) := by decide +kernel
theorem d_L_turnTo_23 : decode y_L_turnTo.2.1 23 = .ok (.iconst 2, 1) := by decide +kernel
theorem d_L_turnTo_24 : decode y_L_turnTo.2.1 24 = .ok (.ireturn, 1) := by decide +kernel
theorem d_L_turnTo_25 : decode y_L_turnTo.2.1 25 = .ok (.iconst 0, 1) := by decide +kernel
theorem d_L_turnTo_26 : decode y_L_turnTo.2.1 26 = .ok (.ireturn, 1) := by decide +kernel
theorem d_L_best_0 : decode y_L_best.2.1 0 = .ok (.aload_n 3, 1) := by decide +kernel
theorem d_L_best_1 : decode y_L_best.2.1 1 = .ok (.iconst 0, 1) := by decide +kernel
theorem d_L_best_2 : decode y_L_best.2.1 2 = .ok (.aload_n 0, 1) := by decide +kernel
theorem d_L_best_3 : decode y_L_best.2.1 3 = .ok (.iload_n 1, 1) := by decide +kernel
theorem d_L_best_4 : decode y_L_best.2.1 4 = .ok (.iload_n 2, 1) := by decide +kernel
theorem d_L_best_5 : decode y_L_best.2.1 5 = .ok (.invokevirtual 107, 3) := by decide +kernel
theorem d_L_best_8 : decode y_L_best.2.1 8 = .ok (.i2l, 1) := by decide +kernel
theorem d_L_best_9 : decode y_L_best.2.1 9 = .ok (.lastore, 1) := by decide +kernel
theorem d_L_best_10 : decode y_L_best.2.1 10 = .ok (.goto 11, 3) := by decide +kernel
theorem d_L_best_13 : decode y_L_best.2.1 13 = .ok (.astore 4, 2) := by decide +kernel
theorem d_L_best_15 : decode y_L_best.2.1 15 = .ok (.iconst 1, 1) := by decide +kernel
theorem d_L_best_16 : decode y_L_best.2.1 16 = .ok (.ireturn, 1) := by decide +kernel
theorem d_L_best_17 : decode y_L_best.2.1 17 = .ok (.astore 4, 2) := by decide +kernel
theorem d_L_best_19 : decode y_L_best.2.1 19 = .ok (.iconst 2, 1) := by decide +kernel
theorem d_L_best_20 : decode y_L_best.2.1 20 = .ok (.ireturn, 1) := by decide +kernel
theorem d_L_best_21 : decode y_L_best.2.1 21 = .ok (.iconst 0, 1) := by decide +kernel
theorem d_L_best_22 : decode y_L_best.2.1 22 = .ok (.ireturn, 1) := by decide +kernel
theorem d_L_reach_0 : decode y_L_reach.2.1 0 = .ok (.aload 7, 2) := by decide +kernel
theorem d_L_reach_2 : decode y_L_reach.2.1 2 = .ok (.iconst 0, 1) := by decide +kernel
theorem d_L_reach_3 : decode y_L_reach.2.1 3 = .ok (.aload_n 0, 1) := by decide +kernel
theorem d_L_reach_4 : decode y_L_reach.2.1 4 = .ok (.iload_n 1, 1) := by decide +kernel
theorem d_L_reach_5 : decode y_L_reach.2.1 5 = .ok (.iload_n 2, 1) := by decide +kernel
theorem d_L_reach_6 : decode y_L_reach.2.1 6 = .ok (.iload_n 3, 1) := by decide +kernel
theorem d_L_reach_7 : decode y_L_reach.2.1 7 = .ok (.iload 4, 2) := by decide +kernel
theorem d_L_reach_9 : decode y_L_reach.2.1 9 = .ok (.iload 5, 2) := by decide +kernel
theorem d_L_reach_11 : decode y_L_reach.2.1 11 = .ok (.iload 6, 2) := by decide +kernel
theorem d_L_reach_13 : decode y_L_reach.2.1 13 = .ok (.invokevirtual 110, 3) := by decide +kernel
theorem d_L_reach_16 : decode y_L_reach.2.1 16 = .ok (.i2l, 1) := by decide +kernel
theorem d_L_reach_17 : decode y_L_reach.2.1 17 = .ok (.lastore, 1) := by decide +kernel
theorem d_L_reach_18 : decode y_L_reach.2.1 18 = .ok (.goto 11, 3) := by decide +kernel
theorem d_L_reach_21 : decode y_L_reach.2.1 21 = .ok (.astore 8, 2) := by decide +kernel
theorem d_L_reach_23 : decode y_L_reach.2.1 23 = .ok (.iconst 1, 1) := by decide +kernel
theorem d_L_reach_24 : decode y_L_reach.2.1 24 = .ok (.ireturn, 1) := by decide +kernel
theorem d_L_reach_25 : decode y_L_reach.2.1 25 = .ok (.astore 8, 2) := by decide +kernel
theorem d_L_reach_27 : decode y_L_reach.2.1 27 = .ok (.iconst 2, 1) := by decide +kernel
theorem d_L_reach_28 : decode y_L_reach.2.1 28 = .ok (.ireturn, 1) := by decide +kernel
theorem d_L_reach_29 : decode y_L_reach.2.1 29 = .ok (.iconst 0, 1) := by decide +kernel
theorem d_L_reach_30 : decode y_L_reach.2.1 30 = .ok (.ireturn, 1) := by decide +kernel
theorem d_L_drill_0 : decode y_L_drill.2.1 0 = .ok (.aload_n 3, 1) := by decide +kernel
theorem d_L_drill_1 : decode y_L_drill.2.1 1 = .ok (.iconst 0, 1) := by decide +kernel
theorem d_L_drill_2 : decode y_L_drill.2.1 2 = .ok (.aload_n 0, 1) := by decide +kernel
theorem d_L_drill_3 : decode y_L_drill.2.1 3 = .ok (.iload_n 1, 1) := by decide +kernel
theorem d_L_drill_4 : decode y_L_drill.2.1 4 = .ok (.iload_n 2, 1) := by decide +kernel
theorem d_L_drill_5 : decode y_L_drill.2.1 5 = .ok (.invokevirtual 113, 3) := by decide +kernel
theorem d_L_drill_8 : decode y_L_drill.2.1 8 = .ok (.i2l, 1) := by decide +kernel
theorem d_L_drill_9 : decode y_L_drill.2.1 9 = .ok (.lastore, 1) := by decide +kernel
theorem d_L_drill_10 : decode y_L_drill.2.1 10 = .ok (.goto 7, 3) := by decide +kernel
theorem d_L_drill_13 : decode y_L_drill.2.1 13 = .ok (.astore 4, 2) := by decide +kernel
theorem d_L_drill_15 : decode y_L_drill.2.1 15 = .ok (.iconst 1, 1) := by decide +kernel
theorem d_L_drill_16 : decode y_L_drill.2.1 16 = .ok (.ireturn, 1) := by decide +kernel
theorem d_L_drill_17 : decode y_L_drill.2.1 17 = .ok (.iconst 0, 1) := by decide +kernel
theorem d_L_drill_18 : decode y_L_drill.2.1 18 = .ok (.ireturn, 1) := by decide +kernel
theorem d_L_dose_0 : decode y_L_dose.2.1 0 = .ok (.aload 7, 2) := by decide +kernel
theorem d_L_dose_2 : decode y_L_dose.2.1 2 = .ok (.iconst 0, 1) := by decide +kernel
theorem d_L_dose_3 : decode y_L_dose.2.1 3 = .ok (.aload_n 0, 1) := by decide +kernel
theorem d_L_dose_4 : decode y_L_dose.2.1 4 = .ok (.iload_n 1, 1) := by decide +kernel
theorem d_L_dose_5 : decode y_L_dose.2.1 5 = .ok (.iload_n 2, 1) := by decide +kernel
theorem d_L_dose_6 : decode y_L_dose.2.1 6 = .ok (.iload_n 3, 1) := by decide +kernel
theorem d_L_dose_7 : decode y_L_dose.2.1 7 = .ok (.iload 4, 2) := by decide +kernel
theorem d_L_dose_9 : decode y_L_dose.2.1 9 = .ok (.iload 5, 2) := by decide +kernel
theorem d_L_dose_11 : decode y_L_dose.2.1 11 = .ok (.iload 6, 2) := by decide +kernel
theorem d_L_dose_13 : decode y_L_dose.2.1 13 = .ok (.invokevirtual 116, 3) := by decide +kernel
theorem d_L_dose_16 : decode y_L_dose.2.1 16 = .ok (.lastore, 1) := by decide +kernel
theorem d_L_dose_17 : decode y_L_dose.2.1 17 = .ok (.goto 11, 3) := by decide +kernel
theorem d_L_dose_20 : decode y_L_dose.2.1 20 = .ok (.astore 8, 2) := by decide +kernel
theorem d_L_dose_22 : decode y_L_dose.2.1 22 = .ok (.iconst 1, 1) := by decide +kernel
theorem d_L_dose_23 : decode y_L_dose.2.1 23 = .ok (.ireturn, 1) := by decide +kernel
theorem d_L_dose_24 : decode y_L_dose.2.1 24 = .ok (.astore 8, 2) := by decide +kernel
theorem d_L_dose_26 : decode y_L_dose.2.1 26 = .ok (.iconst 2, 1) := by decide +kernel
theorem d_L_dose_27 : decode y_L_dose.2.1 27 = .ok (.ireturn, 1) := by decide +kernel
theorem d_L_dose_28 : decode y_L_dose.2.1 28 = .ok (.iconst 0, 1) := by decide +kernel
theorem d_L_dose_29 : decode y_L_dose.2.1 29 = .ok (.ireturn, 1) := by decide +kernel
theorem d_L_outAt_0 : decode y_L_outAt.2.1 0 = .ok (.aload 7, 2) := by decide +kernel
theorem d_L_outAt_2 : decode y_L_outAt.2.1 2 = .ok (.iconst 0, 1) := by decide +kernel
theorem d_L_outAt_3 : decode y_L_outAt.2.1 3 = .ok (.aload_n 0, 1) := by decide +kernel
theorem d_L_outAt_4 : decode y_L_outAt.2.1 4 = .ok (.iload_n 1, 1) := by decide +kernel
theorem d_L_outAt_5 : decode y_L_outAt.2.1 5 = .ok (.iload_n 2, 1) := by decide +kernel
theorem d_L_outAt_6 : decode y_L_outAt.2.1 6 = .ok (.iload_n 3, 1) := by decide +kernel
theorem d_L_outAt_7 : decode y_L_outAt.2.1 7 = .ok (.iload 4, 2) := by decide +kernel
theorem d_L_outAt_9 : decode y_L_outAt.2.1 9 = .ok (.iload 5, 2) := by decide +kernel
theorem d_L_outAt_11 : decode y_L_outAt.2.1 11 = .ok (.iload 6, 2) := by decide +kernel
theorem d_L_outAt_13 : decode y_L_outAt.2.1 13 = .ok (.invokevirtual 119, 3) := by decide +kernel
theorem d_L_outAt_16 : decode y_L_outAt.2.1 16 = .ok (.i2l, 1) := by decide +kernel
theorem d_L_outAt_17 : decode y_L_outAt.2.1 17 = .ok (.lastore, 1) := by decide +kernel
theorem d_L_outAt_18 : decode y_L_outAt.2.1 18 = .ok (.goto 11, 3) := by decide +kernel
theorem d_L_outAt_21 : decode y_L_outAt.2.1 21 = .ok (.astore 8, 2) := by decide +kernel
theorem d_L_outAt_23 : decode y_L_outAt.2.1 23 = .ok (.iconst 1, 1) := by decide +kernel
theorem d_L_outAt_24 : decode y_L_outAt.2.1 24 = .ok (.ireturn, 1) := by decide +kernel
theorem d_L_outAt_25 : decode y_L_outAt.2.1 25 = .ok (.astore 8, 2) := by decide +kernel
theorem d_L_outAt_27 : decode y_L_outAt.2.1 27 = .ok (.iconst 2, 1) := by decide +kernel
theorem d_L_outAt_28 : decode y_L_outAt.2.1 28 = .ok (.ireturn, 1) := by decide +kernel
theorem d_L_outAt_29 : decode y_L_outAt.2.1 29 = .ok (.iconst 0, 1) := by decide +kernel
theorem d_L_outAt_30 : decode y_L_outAt.2.1 30 = .ok (.ireturn, 1) := by decide +kernel
theorem d_L_whereAt_0 : decode y_L_whereAt.2.1 0 = .ok (.aload 8, 2) := by decide +kernel
theorem d_L_whereAt_2 : decode y_L_whereAt.2.1 2 = .ok (.iconst 0, 1) := by decide +kernel
theorem d_L_whereAt_3 : decode y_L_whereAt.2.1 3 = .ok (.aload_n 0, 1) := by decide +kernel
theorem d_L_whereAt_4 : decode y_L_whereAt.2.1 4 = .ok (.iload_n 1, 1) := by decide +kernel
theorem d_L_whereAt_5 : decode y_L_whereAt.2.1 5 = .ok (.iload_n 2, 1) := by decide +kernel
theorem d_L_whereAt_6 : decode y_L_whereAt.2.1 6 = .ok (.iload_n 3, 1) := by decide +kernel
theorem d_L_whereAt_7 : decode y_L_whereAt.2.1 7 = .ok (.iload 4, 2) := by decide +kernel
theorem d_L_whereAt_9 : decode y_L_whereAt.2.1 9 = .ok (.iload 5, 2) := by decide +kernel
theorem d_L_whereAt_11 : decode y_L_whereAt.2.1 11 = .ok (.iload 6, 2) := by decide +kernel
theorem d_L_whereAt_13 : decode y_L_whereAt.2.1 13 = .ok (.iload 7, 2) := by decide +kernel
theorem d_L_whereAt_15 : decode y_L_whereAt.2.1 15 = .ok (.invokevirtual 122, 3) := by decide +kernel
theorem d_L_whereAt_18 : decode y_L_whereAt.2.1 18 = .ok (.i2l, 1) := by decide +kernel
theorem d_L_whereAt_19 : decode y_L_whereAt.2.1 19 = .ok (.lastore, 1) := by decide +kernel
theorem d_L_whereAt_20 : decode y_L_whereAt.2.1 20 = .ok (.goto 11, 3) := by decide +kernel
theorem d_L_whereAt_23 : decode y_L_whereAt.2.1 23 = .ok (.astore 9, 2) := by decide +kernel
theorem d_L_whereAt_25 : decode y_L_whereAt.2.1 25 = .ok (.iconst 1, 1) := by decide +kernel
theorem d_L_whereAt_26 : decode y_L_whereAt.2.1 26 = .ok (.ireturn, 1) := by decide +kernel
theorem d_L_whereAt_27 : decode y_L_whereAt.2.1 27 = .ok (.astore 9, 2) := by decide +kernel
theorem d_L_whereAt_29 : decode y_L_whereAt.2.1 29 = .ok (.iconst 2, 1) := by decide +kernel
theorem d_L_whereAt_30 : decode y_L_whereAt.2.1 30 = .ok (.ireturn, 1) := by decide +kernel
theorem d_L_whereAt_31 : decode y_L_whereAt.2.1 31 = .ok (.iconst 0, 1) := by decide +kernel
theorem d_L_whereAt_32 : decode y_L_whereAt.2.1 32 = .ok (.ireturn, 1) := by decide +kernel
theorem d_L_reading_0 : decode y_L_reading.2.1 0 = .ok (.aload 4, 2) := by decide +kernel
theorem d_L_reading_2 : decode y_L_reading.2.1 2 = .ok (.iconst 0, 1) := by decide +kernel
theorem d_L_reading_3 : decode y_L_reading.2.1 3 = .ok (.aload_n 0, 1) := by decide +kernel
theorem d_L_reading_4 : decode y_L_reading.2.1 4 = .ok (.iload_n 1, 1) := by decide +kernel
theorem d_L_reading_5 : decode y_L_reading.2.1 5 = .ok (.iload_n 2, 1) := by decide +kernel
theorem d_L_reading_6 : decode y_L_reading.2.1 6 = .ok (.iload_n 3, 1) := by decide +kernel
theorem d_L_reading_7 : decode y_L_reading.2.1 7 = .ok (.invokevirtual 126, 3) := by decide +kernel
theorem d_L_reading_10 : decode y_L_reading.2.1 10 = .ok (.i2l, 1) := by decide +kernel
theorem d_L_reading_11 : decode y_L_reading.2.1 11 = .ok (.lastore, 1) := by decide +kernel
theorem d_L_reading_12 : decode y_L_reading.2.1 12 = .ok (.goto 11, 3) := by decide +kernel
theorem d_L_reading_15 : decode y_L_reading.2.1 15 = .ok (.astore 5, 2) := by decide +kernel
theorem d_L_reading_17 : decode y_L_reading.2.1 17 = .ok (.iconst 1, 1) := by decide +kernel
theorem d_L_reading_18 : decode y_L_reading.2.1 18 = .ok (.ireturn, 1) := by decide +kernel
theorem d_L_reading_19 : decode y_L_reading.2.1 19 = .ok (.astore 5, 2) := by decide +kernel
theorem d_L_reading_21 : decode y_L_reading.2.1 21 = .ok (.iconst 2, 1) := by decide +kernel
theorem d_L_reading_22 : decode y_L_reading.2.1 22 = .ok (.ireturn, 1) := by decide +kernel
theorem d_L_reading_23 : decode y_L_reading.2.1 23 = .ok (.iconst 0, 1) := by decide +kernel
theorem d_L_reading_24 : decode y_L_reading.2.1 24 = .ok (.ireturn, 1) := by decide +kernel
theorem d_L_fits_0 : decode y_L_fits.2.1 0 = .ok (.aload_n 2, 1) := by decide +kernel
theorem d_L_fits_1 : decode y_L_fits.2.1 1 = .ok (.iconst 0, 1) := by decide +kernel
theorem d_L_fits_2 : decode y_L_fits.2.1 2 = .ok (.aload_n 0, 1) := by decide +kernel
theorem d_L_fits_3 : decode y_L_fits.2.1 3 = .ok (.iload_n 1, 1) := by decide +kernel
theorem d_L_fits_4 : decode y_L_fits.2.1 4 = .ok (.invokevirtual 130, 3) := by decide +kernel
theorem d_L_fits_7 : decode y_L_fits.2.1 7 = .ok (.i2l, 1) := by decide +kernel
theorem d_L_fits_8 : decode y_L_fits.2.1 8 = .ok (.lastore, 1) := by decide +kernel
theorem d_L_fits_9 : decode y_L_fits.2.1 9 = .ok (.goto 6, 3) := by decide +kernel
theorem d_L_fits_12 : decode y_L_fits.2.1 12 = .ok (.astore_n 3, 1) := by decide +kernel
theorem d_L_fits_13 : decode y_L_fits.2.1 13 = .ok (.iconst 1, 1) := by decide +kernel
theorem d_L_fits_14 : decode y_L_fits.2.1 14 = .ok (.ireturn, 1) := by decide +kernel
theorem d_L_fits_15 : decode y_L_fits.2.1 15 = .ok (.iconst 0, 1) := by decide +kernel
theorem d_L_fits_16 : decode y_L_fits.2.1 16 = .ok (.ireturn, 1) := by decide +kernel
theorem d_L_next_0 : decode y_L_next.2.1 0 = .ok (.aload_n 2, 1) := by decide +kernel
theorem d_L_next_1 : decode y_L_next.2.1 1 = .ok (.iconst 0, 1) := by decide +kernel
theorem d_L_next_2 : decode y_L_next.2.1 2 = .ok (.aload_n 0, 1) := by decide +kernel
theorem d_L_next_3 : decode y_L_next.2.1 3 = .ok (.iload_n 1, 1) := by decide +kernel
theorem d_L_next_4 : decode y_L_next.2.1 4 = .ok (.invokevirtual 133, 3) := by decide +kernel
theorem d_L_next_7 : decode y_L_next.2.1 7 = .ok (.i2l, 1) := by decide +kernel
theorem d_L_next_8 : decode y_L_next.2.1 8 = .ok (.lastore, 1) := by decide +kernel
theorem d_L_next_9 : decode y_L_next.2.1 9 = .ok (.goto 6, 3) := by decide +kernel
theorem d_L_next_12 : decode y_L_next.2.1 12 = .ok (.astore_n 3, 1) := by decide +kernel
theorem d_L_next_13 : decode y_L_next.2.1 13 = .ok (.iconst 1, 1) := by decide +kernel
theorem d_L_next_14 : decode y_L_next.2.1 14 = .ok (.ireturn, 1) := by decide +kernel
theorem d_L_next_15 : decode y_L_next.2.1 15 = .ok (.iconst 0, 1) := by decide +kernel
theorem d_L_next_16 : decode y_L_next.2.1 16 = .ok (.ireturn, 1) := by decide +kernel
theorem d_L_row_0 : decode y_L_row.2.1 0 = .ok (.aload_n 0, 1) := by decide +kernel
theorem d_L_row_1 : decode y_L_row.2.1 1 = .ok (.iload_n 1, 1) := by decide +kernel
theorem d_L_row_2 : decode y_L_row.2.1 2 = .ok (.iload_n 2, 1) := by decide +kernel
theorem d_L_row_3 : decode y_L_row.2.1 3 = .ok (.iload_n 3, 1) := by decide +kernel
theorem d_L_row_4 : decode y_L_row.2.1 4 = .ok (.invokevirtual 136, 3) := by decide +kernel
theorem d_L_row_7 : decode y_L_row.2.1 7 = .ok (.goto 11, 3) := by decide +kernel
theorem d_L_row_10 : decode y_L_row.2.1 10 = .ok (.astore 4, 2) := by decide +kernel
theorem d_L_row_12 : decode y_L_row.2.1 12 = .ok (.iconst 1, 1) := by decide +kernel
theorem d_L_row_13 : decode y_L_row.2.1 13 = .ok (.ireturn, 1) := by decide +kernel
theorem d_L_row_14 : decode y_L_row.2.1 14 = .ok (.astore 4, 2) := by decide +kernel
theorem d_L_row_16 : decode y_L_row.2.1 16 = .ok (.iconst 2, 1) := by decide +kernel
theorem d_L_row_17 : decode y_L_row.2.1 17 = .ok (.ireturn, 1) := by decide +kernel
theorem d_L_row_18 : decode y_L_row.2.1 18 = .ok (.iconst 0, 1) := by decide +kernel
theorem d_L_row_19 : decode y_L_row.2.1 19 = .ok (.ireturn, 1) := by decide +kernel
theorem d_L_write_0 : decode y_L_write.2.1 0 = .ok (.aload 5, 2) := by decide +kernel
theorem d_L_write_2 : decode y_L_write.2.1 2 = .ok (.iconst 0, 1) := by decide +kernel
theorem d_L_write_3 : decode y_L_write.2.1 3 = .ok (.aload_n 0, 1) := by decide +kernel
theorem d_L_write_4 : decode y_L_write.2.1 4 = .ok (.iload_n 1, 1) := by decide +kernel
theorem d_L_write_5 : decode y_L_write.2.1 5 = .ok (.iload_n 2, 1) := by decide +kernel
theorem d_L_write_6 : decode y_L_write.2.1 6 = .ok (.lload_n 3, 1) := by decide +kernel
theorem d_L_write_7 : decode y_L_write.2.1 7 = .ok (.invokevirtual 139, 3) := by decide +kernel
theorem d_L_write_10 : decode y_L_write.2.1 10 = .ok (.lastore, 1) := by decide +kernel
theorem d_L_write_11 : decode y_L_write.2.1 11 = .ok (.goto 15, 3) := by decide +kernel
theorem d_L_write_14 : decode y_L_write.2.1 14 = .ok (.astore 6, 2) := by decide +kernel
theorem d_L_write_16 : decode y_L_write.2.1 16 = .ok (.iconst 1, 1) := by decide +kernel
theorem d_L_write_17 : decode y_L_write.2.1 17 = .ok (.ireturn, 1) := by decide +kernel
theorem d_L_write_18 : decode y_L_write.2.1 18 = .ok (.astore 6, 2) := by decide +kernel
theorem d_L_write_20 : decode y_L_write.2.1 20 = .ok (.iconst 2, 1) := by decide +kernel
theorem d_L_write_21 : decode y_L_write.2.1 21 = .ok (.ireturn, 1) := by decide +kernel
theorem d_L_write_22 : decode y_L_write.2.1 22 = .ok (.astore 6, 2) := by decide +kernel
theorem d_L_write_24 : decode y_L_write.2.1 24 = .ok (.iconst 3, 1) := by decide +kernel
theorem d_L_write_25 : decode y_L_write.2.1 25 = .ok (.ireturn, 1) := by decide +kernel
theorem d_L_write_26 : decode y_L_write.2.1 26 = .ok (.iconst 0, 1) := by decide +kernel
theorem d_L_write_27 : decode y_L_write.2.1 27 = .ok (.ireturn, 1) := by decide +kernel
theorem d_L_lay_0 : decode y_L_lay.2.1 0 = .ok (.aload 7, 2) := by decide +kernel
theorem d_L_lay_2 : decode y_L_lay.2.1 2 = .ok (.iconst 0, 1) := by decide +kernel
theorem d_L_lay_3 : decode y_L_lay.2.1 3 = .ok (.aload_n 0, 1) := by decide +kernel
theorem d_L_lay_4 : decode y_L_lay.2.1 4 = .ok (.iload_n 1, 1) := by decide +kernel
theorem d_L_lay_5 : decode y_L_lay.2.1 5 = .ok (.iload_n 2, 1) := by decide +kernel
theorem d_L_lay_6 : decode y_L_lay.2.1 6 = .ok (.iload_n 3, 1) := by decide +kernel
theorem d_L_lay_7 : decode y_L_lay.2.1 7 = .ok (.iload 4, 2) := by decide +kernel
theorem d_L_lay_9 : decode y_L_lay.2.1 9 = .ok (.iload 5, 2) := by decide +kernel
theorem d_L_lay_11 : decode y_L_lay.2.1 11 = .ok (.iload 6, 2) := by decide +kernel
theorem d_L_lay_13 : decode y_L_lay.2.1 13 = .ok (.invokevirtual 143, 3) := by decide +kernel
theorem d_L_lay_16 : decode y_L_lay.2.1 16 = .ok (.i2l, 1) := by decide +kernel
theorem d_L_lay_17 : decode y_L_lay.2.1 17 = .ok (.lastore, 1) := by decide +kernel
theorem d_L_lay_18 : decode y_L_lay.2.1 18 = .ok (.goto 19, 3) := by decide +kernel
theorem d_L_lay_21 : decode y_L_lay.2.1 21 = .ok (.astore 8, 2) := by decide +kernel
theorem d_L_lay_23 : decode y_L_lay.2.1 23 = .ok (.iconst 1, 1) := by decide +kernel
theorem d_L_lay_24 : decode y_L_lay.2.1 24 = .ok (.ireturn, 1) := by decide +kernel
theorem d_L_lay_25 : decode y_L_lay.2.1 25 = .ok (.astore 8, 2) := by decide +kernel
theorem d_L_lay_27 : decode y_L_lay.2.1 27 = .ok (.iconst 2, 1) := by decide +kernel
theorem d_L_lay_28 : decode y_L_lay.2.1 28 = .ok (.ireturn, 1) := by decide +kernel
theorem d_L_lay_29 : decode y_L_lay.2.1 29 = .ok (.astore 8, 2) := by decide +kernel
theorem d_L_lay_31 : decode y_L_lay.2.1 31 = .ok (.iconst 3, 1) := by decide +kernel
theorem d_L_lay_32 : decode y_L_lay.2.1 32 = .ok (.ireturn, 1) := by decide +kernel
theorem d_L_lay_33 : decode y_L_lay.2.1 33 = .ok (.astore 8, 2) := by decide +kernel
theorem d_L_lay_35 : decode y_L_lay.2.1 35 = .ok (.iconst 4, 1) := by decide +kernel
theorem d_L_lay_36 : decode y_L_lay.2.1 36 = .ok (.ireturn, 1) := by decide +kernel
theorem d_L_lay_37 : decode y_L_lay.2.1 37 = .ok (.iconst 0, 1) := by decide +kernel
theorem d_L_lay_38 : decode y_L_lay.2.1 38 = .ok (.ireturn, 1) := by decide +kernel
