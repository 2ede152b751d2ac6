theorem dX0_init_0 : decode cX0_init 0 = .ok (.aload_n 0, 1) := by decide +kernel
theorem dX0_init_1 : decode cX0_init 1 = .ok (.invokespecial 3, 3) := by decide +kernel
theorem dX0_init_4 : decode cX0_init 4 = .ok (.aload_n 0, 1) := by decide +kernel
theorem dX0_init_5 : decode cX0_init 5 = .ok (.iconst 0, 1) := by decide +kernel
theorem dX0_init_6 : decode cX0_init 6 = .ok (.putfield 9, 3) := by decide +kernel
theorem dX0_init_9 : decode cX0_init 9 = .ok (.aload_n 0, 1) := by decide +kernel
theorem dX0_init_10 : decode cX0_init 10 = .ok (.iconst 0, 1) := by decide +kernel
theorem dX0_init_11 : decode cX0_init 11 = .ok (.putfield 15, 3) := by decide +kernel
theorem dX0_init_14 : decode cX0_init 14 = .ok (.aload_n 0, 1) := by decide +kernel
theorem dX0_init_15 : decode cX0_init 15 = .ok (.iconst 0, 1) := by decide +kernel
theorem dX0_init_16 : decode cX0_init 16 = .ok (.putfield 18, 3) := by decide +kernel
theorem dX0_init_19 : decode cX0_init 19 = .ok (.return_, 1) := by decide +kernel
theorem dX0_take_0 : decode cX0_take 0 = .ok (.aload_n 0, 1) := by decide +kernel
theorem dX0_take_1 : decode cX0_take 1 = .ok (.aload_n 1, 1) := by decide +kernel
theorem dX0_take_2 : decode cX0_take 2 = .ok (.getfield 9, 3) := by decide +kernel
theorem dX0_take_5 : decode cX0_take 5 = .ok (.putfield 9, 3) := by decide +kernel
theorem dX0_take_8 : decode cX0_take 8 = .ok (.aload_n 0, 1) := by decide +kernel
theorem dX0_take_9 : decode cX0_take 9 = .ok (.aload_n 1, 1) := by decide +kernel
theorem dX0_take_10 : decode cX0_take 10 = .ok (.getfield 15, 3) := by decide +kernel
theorem dX0_take_13 : decode cX0_take 13 = .ok (.putfield 15, 3) := by decide +kernel
theorem dX0_take_16 : decode cX0_take 16 = .ok (.aload_n 0, 1) := by decide +kernel
theorem dX0_take_17 : decode cX0_take 17 = .ok (.aload_n 1, 1) := by decide +kernel
theorem dX0_take_18 : decode cX0_take 18 = .ok (.getfield 18, 3) := by decide +kernel
theorem dX0_take_21 : decode cX0_take 21 = .ok (.putfield 18, 3) := by decide +kernel
theorem dX0_take_24 : decode cX0_take 24 = .ok (.return_, 1) := by decide +kernel
theorem dX0_worth_0 : decode cX0_worth 0 = .ok (.aload_n 0, 1) := by decide +kernel
theorem dX0_worth_1 : decode cX0_worth 1 = .ok (.getfield 9, 3) := by decide +kernel
theorem dX0_worth_4 : decode cX0_worth 4 = .ok (.tableswitch 72 1 5 #[36, 52, 43, 60, 70], 36) := by decide +kernel
theorem dX0_worth_40 : decode cX0_worth 40 = .ok (.aload_n 0, 1) := by decide +kernel
theorem dX0_worth_41 : decode cX0_worth 41 = .ok (.getfield 15, 3) := by decide +kernel
theorem dX0_worth_44 : decode cX0_worth 44 = .ok (.iconst 4, 1) := by decide +kernel
theorem dX0_worth_45 : decode cX0_worth 45 = .ok (.iadd, 1) := by decide +kernel
theorem dX0_worth_46 : decode cX0_worth 46 = .ok (.ireturn, 1) := by decide +kernel
theorem dX0_worth_47 : decode cX0_worth 47 = .ok (.iconst 2, 1) := by decide +kernel
theorem dX0_worth_48 : decode cX0_worth 48 = .ok (.aload_n 0, 1) := by decide +kernel
theorem dX0_worth_49 : decode cX0_worth 49 = .ok (.getfield 15, 3) := by decide +kernel
theorem dX0_worth_52 : decode cX0_worth 52 = .ok (.iconst 4, 1) := by decide +kernel
theorem dX0_worth_53 : decode cX0_worth 53 = .ok (.iadd, 1) := by decide +kernel
theorem dX0_worth_54 : decode cX0_worth 54 = .ok (.imul, 1) := by decide +kernel
theorem dX0_worth_55 : decode cX0_worth 55 = .ok (.ireturn, 1) := by decide +kernel
theorem dX0_worth_56 : decode cX0_worth 56 = .ok (.bipush 60, 2) := by decide +kernel
theorem dX0_worth_58 : decode cX0_worth 58 = .ok (.aload_n 0, 1) := by decide +kernel
theorem dX0_worth_59 : decode cX0_worth 59 = .ok (.getfield 15, 3) := by decide +kernel
theorem dX0_worth_62 : decode cX0_worth 62 = .ok (.isub, 1) := by decide +kernel
theorem dX0_worth_63 : decode cX0_worth 63 = .ok (.ireturn, 1) := by decide +kernel
theorem dX0_worth_64 : decode cX0_worth 64 = .ok (.bipush 60, 2) := by decide +kernel
theorem dX0_worth_66 : decode cX0_worth 66 = .ok (.aload_n 0, 1) := by decide +kernel
theorem dX0_worth_67 : decode cX0_worth 67 = .ok (.getfield 15, 3) := by decide +kernel
theorem dX0_worth_70 : decode cX0_worth 70 = .ok (.isub, 1) := by decide +kernel
theorem dX0_worth_71 : decode cX0_worth 71 = .ok (.iconst 5, 1) := by decide +kernel
theorem dX0_worth_72 : decode cX0_worth 72 = .ok (.isub, 1) := by decide +kernel
theorem dX0_worth_73 : decode cX0_worth 73 = .ok (.ireturn, 1) := by decide +kernel
theorem dX0_worth_74 : decode cX0_worth 74 = .ok (.iconst 2, 1) := by decide +kernel
theorem dX0_worth_75 : decode cX0_worth 75 = .ok (.ireturn, 1) := by decide +kernel
theorem dX0_worth_76 : decode cX0_worth 76 = .ok (.aload_n 0, 1) := by decide +kernel
theorem dX0_worth_77 : decode cX0_worth 77 = .ok (.getfield 15, 3) := by decide +kernel
theorem dX0_worth_80 : decode cX0_worth 80 = .ok (.ireturn, 1) := by decide +kernel
theorem dX1_init_0 : decode cX1_init 0 = .ok (.aload_n 0, 1) := by decide +kernel
theorem dX1_init_1 : decode cX1_init 1 = .ok (.invokespecial 3, 3) := by decide +kernel
theorem dX1_init_4 : decode cX1_init 4 = .ok (.aload_n 0, 1) := by decide +kernel
theorem dX1_init_5 : decode cX1_init 5 = .ok (.sipush 720, 3) := by decide +kernel
theorem dX1_init_8 : decode cX1_init 8 = .ok (.newarray .int, 2) := by decide +kernel
theorem dX1_init_10 : decode cX1_init 10 = .ok (.putfield 9, 3) := by decide +kernel
theorem dX1_init_13 : decode cX1_init 13 = .ok (.aload_n 0, 1) := by decide +kernel
theorem dX1_init_14 : decode cX1_init 14 = .ok (.bipush 97, 2) := by decide +kernel
theorem dX1_init_16 : decode cX1_init 16 = .ok (.newarray .int, 2) := by decide +kernel
theorem dX1_init_18 : decode cX1_init 18 = .ok (.putfield 15, 3) := by decide +kernel
theorem dX1_init_21 : decode cX1_init 21 = .ok (.aload_n 0, 1) := by decide +kernel
theorem dX1_init_22 : decode cX1_init 22 = .ok (.iconst 0, 1) := by decide +kernel
theorem dX1_init_23 : decode cX1_init 23 = .ok (.putfield 18, 3) := by decide +kernel
theorem dX1_init_26 : decode cX1_init 26 = .ok (.aload_n 0, 1) := by decide +kernel
theorem dX1_init_27 : decode cX1_init 27 = .ok (.iconst 0, 1) := by decide +kernel
theorem dX1_init_28 : decode cX1_init 28 = .ok (.putfield 22, 3) := by decide +kernel
theorem dX1_init_31 : decode cX1_init 31 = .ok (.aload_n 0, 1) := by decide +kernel
theorem dX1_init_32 : decode cX1_init 32 = .ok (.iconst 0, 1) := by decide +kernel
theorem dX1_init_33 : decode cX1_init 33 = .ok (.putfield 25, 3) := by decide +kernel
theorem dX1_init_36 : decode cX1_init 36 = .ok (.aload_n 0, 1) := by decide +kernel
theorem dX1_init_37 : decode cX1_init 37 = .ok (.ldc 28, 2) := by decide +kernel
theorem dX1_init_39 : decode cX1_init 39 = .ok (.putfield 29, 3) := by decide +kernel
theorem dX1_init_42 : decode cX1_init 42 = .ok (.return_, 1) := by decide +kernel
theorem dX1_useClocks_0 : decode cX1_useClocks 0 = .ok (.aload_n 0, 1) := by decide +kernel
theorem dX1_useClocks_1 : decode cX1_useClocks 1 = .ok (.getfield 9, 3) := by decide +kernel
theorem dX1_useClocks_4 : decode cX1_useClocks 4 = .ok (.iconst 0, 1) := by decide +kernel
theorem dX1_useClocks_5 : decode cX1_useClocks 5 = .ok (.invokestatic 32, 3) := by decide +kernel
theorem dX1_useClocks_8 : decode cX1_useClocks 8 = .ok (.iconst 0, 1) := by decide +kernel
theorem dX1_useClocks_9 : decode cX1_useClocks 9 = .ok (.istore_n 2, 1) := by decide +kernel
theorem dX1_useClocks_10 : decode cX1_useClocks 10 = .ok (.iload_n 2, 1) := by decide +kernel
theorem dX1_useClocks_11 : decode cX1_useClocks 11 = .ok (.aload_n 1, 1) := by decide +kernel
theorem dX1_useClocks_12 : decode cX1_useClocks 12 = .ok (.getfield 38, 3) := by decide +kernel
theorem dX1_useClocks_15 : decode cX1_useClocks 15 = .ok (.if_icmp .ge 27, 3) := by decide +kernel
theorem dX1_useClocks_18 : decode cX1_useClocks 18 = .ok (.aload_n 1, 1) := by decide +kernel
theorem dX1_useClocks_19 : decode cX1_useClocks 19 = .ok (.getfield 43, 3) := by decide +kernel
theorem dX1_useClocks_22 : decode cX1_useClocks 22 = .ok (.iload_n 2, 1) := by decide +kernel
theorem dX1_useClocks_23 : decode cX1_useClocks 23 = .ok (.aaload, 1) := by decide +kernel
theorem dX1_useClocks_24 : decode cX1_useClocks 24 = .ok (.astore_n 3, 1) := by decide +kernel
theorem dX1_useClocks_25 : decode cX1_useClocks 25 = .ok (.aload_n 0, 1) := by decide +kernel
theorem dX1_useClocks_26 : decode cX1_useClocks 26 = .ok (.aload_n 1, 1) := by decide +kernel
theorem dX1_useClocks_27 : decode cX1_useClocks 27 = .ok (.aload_n 3, 1) := by decide +kernel
theorem dX1_useClocks_28 : decode cX1_useClocks 28 = .ok (.aload_n 3, 1) := by decide +kernel
theorem dX1_useClocks_29 : decode cX1_useClocks 29 = .ok (.getfield 47, 3) := by decide +kernel
theorem dX1_useClocks_32 : decode cX1_useClocks 32 = .ok (.iconst 1, 1) := by decide +kernel
theorem dX1_useClocks_33 : decode cX1_useClocks 33 = .ok (.invokevirtual 52, 3) := by decide +kernel
theorem dX1_useClocks_36 : decode cX1_useClocks 36 = .ok (.iinc 2 1, 3) := by decide +kernel
theorem dX1_useClocks_39 : decode cX1_useClocks 39 = .ok (.goto (-29), 3) := by decide +kernel
theorem dX1_useClocks_42 : decode cX1_useClocks 42 = .ok (.return_, 1) := by decide +kernel
theorem dX1_addStrokes_0 : decode cX1_addStrokes 0 = .ok (.aload_n 2, 1) := by decide +kernel
theorem dX1_addStrokes_1 : decode cX1_addStrokes 1 = .ok (.getfield 56, 3) := by decide +kernel
theorem dX1_addStrokes_4 : decode cX1_addStrokes 4 = .ok (.iconst 2, 1) := by decide +kernel
theorem dX1_addStrokes_5 : decode cX1_addStrokes 5 = .ok (.invokestatic 59, 3) := by decide +kernel
theorem dX1_addStrokes_8 : decode cX1_addStrokes 8 = .ok (.istore 5, 2) := by decide +kernel
theorem dX1_addStrokes_10 : decode cX1_addStrokes 10 = .ok (.iconst 1, 1) := by decide +kernel
theorem dX1_addStrokes_11 : decode cX1_addStrokes 11 = .ok (.istore 6, 2) := by decide +kernel
theorem dX1_addStrokes_13 : decode cX1_addStrokes 13 = .ok (.iload 6, 2) := by decide +kernel
theorem dX1_addStrokes_15 : decode cX1_addStrokes 15 = .ok (.bipush 12, 2) := by decide +kernel
theorem dX1_addStrokes_17 : decode cX1_addStrokes 17 = .ok (.if_icmp .gt 103, 3) := by decide +kernel
theorem dX1_addStrokes_20 : decode cX1_addStrokes 20 = .ok (.iload 5, 2) := by decide +kernel
theorem dX1_addStrokes_22 : decode cX1_addStrokes 22 = .ok (.ifCond .eq 14, 3) := by decide +kernel
theorem dX1_addStrokes_25 : decode cX1_addStrokes 25 = .ok (.aload_n 1, 1) := by decide +kernel
theorem dX1_addStrokes_26 : decode cX1_addStrokes 26 = .ok (.aload_n 2, 1) := by decide +kernel
theorem dX1_addStrokes_27 : decode cX1_addStrokes 27 = .ok (.iload_n 3, 1) := by decide +kernel
theorem dX1_addStrokes_28 : decode cX1_addStrokes 28 = .ok (.iload 6, 2) := by decide +kernel
theorem dX1_addStrokes_30 : decode cX1_addStrokes 30 = .ok (.invokevirtual 63, 3) := by decide +kernel
theorem dX1_addStrokes_33 : decode cX1_addStrokes 33 = .ok (.goto 4, 3) := by decide +kernel
theorem dX1_addStrokes_36 : decode cX1_addStrokes 36 = .ok (.iconst 1, 1) := by decide +kernel
theorem dX1_addStrokes_37 : decode cX1_addStrokes 37 = .ok (.istore 7, 2) := by decide +kernel
theorem dX1_addStrokes_39 : decode cX1_addStrokes 39 = .ok (.iload 6, 2) := by decide +kernel
theorem dX1_addStrokes_41 : decode cX1_addStrokes 41 = .ok (.bipush 60, 2) := by decide +kernel
theorem dX1_addStrokes_43 : decode cX1_addStrokes 43 = .ok (.imul, 1) := by decide +kernel
theorem dX1_addStrokes_44 : decode cX1_addStrokes 44 = .ok (.iload_n 3, 1) := by decide +kernel
theorem dX1_addStrokes_45 : decode cX1_addStrokes 45 = .ok (.iadd, 1) := by decide +kernel
theorem dX1_addStrokes_46 : decode cX1_addStrokes 46 = .ok (.istore 8, 2) := by decide +kernel
theorem dX1_addStrokes_48 : decode cX1_addStrokes 48 = .ok (.iconst 0, 1) := by decide +kernel
theorem dX1_addStrokes_49 : decode cX1_addStrokes 49 = .ok (.istore 9, 2) := by decide +kernel
theorem dX1_addStrokes_51 : decode cX1_addStrokes 51 = .ok (.iload 9, 2) := by decide +kernel
theorem dX1_addStrokes_53 : decode cX1_addStrokes 53 = .ok (.bipush 60, 2) := by decide +kernel
theorem dX1_addStrokes_55 : decode cX1_addStrokes 55 = .ok (.if_icmp .ge 34, 3) := by decide +kernel
theorem dX1_addStrokes_58 : decode cX1_addStrokes 58 = .ok (.aload_n 0, 1) := by decide +kernel
theorem dX1_addStrokes_59 : decode cX1_addStrokes 59 = .ok (.iload 8, 2) := by decide +kernel
theorem dX1_addStrokes_61 : decode cX1_addStrokes 61 = .ok (.iload 9, 2) := by decide +kernel
theorem dX1_addStrokes_63 : decode cX1_addStrokes 63 = .ok (.iadd, 1) := by decide +kernel
theorem dX1_addStrokes_64 : decode cX1_addStrokes 64 = .ok (.iload 4, 2) := by decide +kernel
theorem dX1_addStrokes_66 : decode cX1_addStrokes 66 = .ok (.aload_n 2, 1) := by decide +kernel
theorem dX1_addStrokes_67 : decode cX1_addStrokes 67 = .ok (.getfield 56, 3) := by decide +kernel
theorem dX1_addStrokes_70 : decode cX1_addStrokes 70 = .ok (.iload 6, 2) := by decide +kernel
theorem dX1_addStrokes_72 : decode cX1_addStrokes 72 = .ok (.iload 9, 2) := by decide +kernel
theorem dX1_addStrokes_74 : decode cX1_addStrokes 74 = .ok (.iload 7, 2) := by decide +kernel
theorem dX1_addStrokes_76 : decode cX1_addStrokes 76 = .ok (.invokestatic 67, 3) := by decide +kernel
theorem dX1_addStrokes_79 : decode cX1_addStrokes 79 = .ok (.imul, 1) := by decide +kernel
theorem dX1_addStrokes_80 : decode cX1_addStrokes 80 = .ok (.invokevirtual 71, 3) := by decide +kernel
theorem dX1_addStrokes_83 : decode cX1_addStrokes 83 = .ok (.iinc 9 15, 3) := by decide +kernel
theorem dX1_addStrokes_86 : decode cX1_addStrokes 86 = .ok (.goto (-35), 3) := by decide +kernel
theorem dX1_addStrokes_89 : decode cX1_addStrokes 89 = .ok (.aload_n 0, 1) := by decide +kernel
theorem dX1_addStrokes_90 : decode cX1_addStrokes 90 = .ok (.iload 8, 2) := by decide +kernel
theorem dX1_addStrokes_92 : decode cX1_addStrokes 92 = .ok (.iload 7, 2) := by decide +kernel
theorem dX1_addStrokes_94 : decode cX1_addStrokes 94 = .ok (.iadd, 1) := by decide +kernel
theorem dX1_addStrokes_95 : decode cX1_addStrokes 95 = .ok (.iload 4, 2) := by decide +kernel
theorem dX1_addStrokes_97 : decode cX1_addStrokes 97 = .ok (.aload_n 2, 1) := by decide +kernel
theorem dX1_addStrokes_98 : decode cX1_addStrokes 98 = .ok (.getfield 56, 3) := by decide +kernel
theorem dX1_addStrokes_101 : decode cX1_addStrokes 101 = .ok (.iload 6, 2) := by decide +kernel
theorem dX1_addStrokes_103 : decode cX1_addStrokes 103 = .ok (.iload 7, 2) := by decide +kernel
theorem dX1_addStrokes_105 : decode cX1_addStrokes 105 = .ok (.iload 7, 2) := by decide +kernel
theorem dX1_addStrokes_107 : decode cX1_addStrokes 107 = .ok (.invokestatic 67, 3) := by decide +kernel
theorem dX1_addStrokes_110 : decode cX1_addStrokes 110 = .ok (.imul, 1) := by decide +kernel
theorem dX1_addStrokes_111 : decode cX1_addStrokes 111 = .ok (.invokevirtual 71, 3) := by decide +kernel
theorem dX1_addStrokes_114 : decode cX1_addStrokes 114 = .ok (.iinc 6 1, 3) := by decide +kernel
theorem dX1_addStrokes_117 : decode cX1_addStrokes 117 = .ok (.goto (-104), 3) := by decide +kernel
theorem dX1_addStrokes_120 : decode cX1_addStrokes 120 = .ok (.return_, 1) := by decide +kernel
theorem dX1_addAt_0 : decode cX1_addAt 0 = .ok (.aload_n 0, 1) := by decide +kernel
theorem dX1_addAt_1 : decode cX1_addAt 1 = .ok (.getfield 9, 3) := by decide +kernel
theorem dX1_addAt_4 : decode cX1_addAt 4 = .ok (.iload_n 1, 1) := by decide +kernel
theorem dX1_addAt_5 : decode cX1_addAt 5 = .ok (.sipush 720, 3) := by decide +kernel
theorem dX1_addAt_8 : decode cX1_addAt 8 = .ok (.invokestatic 75, 3) := by decide +kernel
theorem dX1_addAt_11 : decode cX1_addAt 11 = .ok (.dup2, 1) := by decide +kernel
theorem dX1_addAt_12 : decode cX1_addAt 12 = .ok (.iaload, 1) := by decide +kernel
theorem dX1_addAt_13 : decode cX1_addAt 13 = .ok (.iload_n 2, 1) := by decide +kernel
theorem dX1_addAt_14 : decode cX1_addAt 14 = .ok (.iadd, 1) := by decide +kernel
theorem dX1_addAt_15 : decode cX1_addAt 15 = .ok (.iastore, 1) := by decide +kernel
theorem dX1_addAt_16 : decode cX1_addAt 16 = .ok (.return_, 1) := by decide +kernel
theorem dX1_useNotes_0 : decode cX1_useNotes 0 = .ok (.aload_n 0, 1) := by decide +kernel
theorem dX1_useNotes_1 : decode cX1_useNotes 1 = .ok (.aload_n 1, 1) := by decide +kernel
theorem dX1_useNotes_2 : decode cX1_useNotes 2 = .ok (.getfield 81, 3) := by decide +kernel
theorem dX1_useNotes_5 : decode cX1_useNotes 5 = .ok (.putfield 18, 3) := by decide +kernel
theorem dX1_useNotes_8 : decode cX1_useNotes 8 = .ok (.iconst 0, 1) := by decide +kernel
theorem dX1_useNotes_9 : decode cX1_useNotes 9 = .ok (.istore_n 2, 1) := by decide +kernel
theorem dX1_useNotes_10 : decode cX1_useNotes 10 = .ok (.iload_n 2, 1) := by decide +kernel
theorem dX1_useNotes_11 : decode cX1_useNotes 11 = .ok (.bipush 96, 2) := by decide +kernel
theorem dX1_useNotes_13 : decode cX1_useNotes 13 = .ok (.if_icmp .gt 65, 3) := by decide +kernel
theorem dX1_useNotes_16 : decode cX1_useNotes 16 = .ok (.iconst 0, 1) := by decide +kernel
theorem dX1_useNotes_17 : decode cX1_useNotes 17 = .ok (.istore_n 3, 1) := by decide +kernel
theorem dX1_useNotes_18 : decode cX1_useNotes 18 = .ok (.iconst 0, 1) := by decide +kernel
theorem dX1_useNotes_19 : decode cX1_useNotes 19 = .ok (.istore 4, 2) := by decide +kernel
theorem dX1_useNotes_21 : decode cX1_useNotes 21 = .ok (.iload 4, 2) := by decide +kernel
theorem dX1_useNotes_23 : decode cX1_useNotes 23 = .ok (.aload_n 0, 1) := by decide +kernel
theorem dX1_useNotes_24 : decode cX1_useNotes 24 = .ok (.getfield 18, 3) := by decide +kernel
theorem dX1_useNotes_27 : decode cX1_useNotes 27 = .ok (.if_icmp .ge 38, 3) := by decide +kernel
theorem dX1_useNotes_30 : decode cX1_useNotes 30 = .ok (.aload_n 1, 1) := by decide +kernel
theorem dX1_useNotes_31 : decode cX1_useNotes 31 = .ok (.aload_n 1, 1) := by decide +kernel
theorem dX1_useNotes_32 : decode cX1_useNotes 32 = .ok (.getfield 82, 3) := by decide +kernel
theorem dX1_useNotes_35 : decode cX1_useNotes 35 = .ok (.iload 4, 2) := by decide +kernel
theorem dX1_useNotes_37 : decode cX1_useNotes 37 = .ok (.iaload, 1) := by decide +kernel
theorem dX1_useNotes_38 : decode cX1_useNotes 38 = .ok (.iload_n 2, 1) := by decide +kernel
theorem dX1_useNotes_39 : decode cX1_useNotes 39 = .ok (.invokevirtual 85, 3) := by decide +kernel
theorem dX1_useNotes_42 : decode cX1_useNotes 42 = .ok (.ifCond .eq 17, 3) := by decide +kernel
theorem dX1_useNotes_45 : decode cX1_useNotes 45 = .ok (.iload_n 3, 1) := by decide +kernel
theorem dX1_useNotes_46 : decode cX1_useNotes 46 = .ok (.iconst 1, 1) := by decide +kernel
theorem dX1_useNotes_47 : decode cX1_useNotes 47 = .ok (.aload_n 0, 1) := by decide +kernel
theorem dX1_useNotes_48 : decode cX1_useNotes 48 = .ok (.getfield 18, 3) := by decide +kernel
theorem dX1_useNotes_51 : decode cX1_useNotes 51 = .ok (.iconst 1, 1) := by decide +kernel
theorem dX1_useNotes_52 : decode cX1_useNotes 52 = .ok (.isub, 1) := by decide +kernel
theorem dX1_useNotes_53 : decode cX1_useNotes 53 = .ok (.iload 4, 2) := by decide +kernel
theorem dX1_useNotes_55 : decode cX1_useNotes 55 = .ok (.isub, 1) := by decide +kernel
theorem dX1_useNotes_56 : decode cX1_useNotes 56 = .ok (.ishl, 1) := by decide +kernel
theorem dX1_useNotes_57 : decode cX1_useNotes 57 = .ok (.ior, 1) := by decide +kernel
theorem dX1_useNotes_58 : decode cX1_useNotes 58 = .ok (.istore_n 3, 1) := by decide +kernel
theorem dX1_useNotes_59 : decode cX1_useNotes 59 = .ok (.iinc 4 1, 3) := by decide +kernel
theorem dX1_useNotes_62 : decode cX1_useNotes 62 = .ok (.goto (-41), 3) := by decide +kernel
theorem dX1_useNotes_65 : decode cX1_useNotes 65 = .ok (.aload_n 0, 1) := by decide +kernel
theorem dX1_useNotes_66 : decode cX1_useNotes 66 = .ok (.getfield 15, 3) := by decide +kernel
theorem dX1_useNotes_69 : decode cX1_useNotes 69 = .ok (.iload_n 2, 1) := by decide +kernel
theorem dX1_useNotes_70 : decode cX1_useNotes 70 = .ok (.iload_n 3, 1) := by decide +kernel
theorem dX1_useNotes_71 : decode cX1_useNotes 71 = .ok (.iastore, 1) := by decide +kernel
theorem dX1_useNotes_72 : decode cX1_useNotes 72 = .ok (.iinc 2 1, 3) := by decide +kernel
theorem dX1_useNotes_75 : decode cX1_useNotes 75 = .ok (.goto (-65), 3) := by decide +kernel
theorem dX1_useNotes_78 : decode cX1_useNotes 78 = .ok (.return_, 1) := by decide +kernel
theorem dX1_findTimes_0 : decode cX1_findTimes 0 = .ok (.aload_n 0, 1) := by decide +kernel
theorem dX1_findTimes_1 : decode cX1_findTimes 1 = .ok (.iconst 0, 1) := by decide +kernel
theorem dX1_findTimes_2 : decode cX1_findTimes 2 = .ok (.putfield 22, 3) := by decide +kernel
theorem dX1_findTimes_5 : decode cX1_findTimes 5 = .ok (.aload_n 0, 1) := by decide +kernel
theorem dX1_findTimes_6 : decode cX1_findTimes 6 = .ok (.iconst 0, 1) := by decide +kernel
theorem dX1_findTimes_7 : decode cX1_findTimes 7 = .ok (.putfield 25, 3) := by decide +kernel
theorem dX1_findTimes_10 : decode cX1_findTimes 10 = .ok (.aload_n 0, 1) := by decide +kernel
theorem dX1_findTimes_11 : decode cX1_findTimes 11 = .ok (.ldc 28, 2) := by decide +kernel
theorem dX1_findTimes_13 : decode cX1_findTimes 13 = .ok (.putfield 29, 3) := by decide +kernel
theorem dX1_findTimes_16 : decode cX1_findTimes 16 = .ok (.aload_n 0, 1) := by decide +kernel
theorem dX1_findTimes_17 : decode cX1_findTimes 17 = .ok (.getfield 18, 3) := by decide +kernel
theorem dX1_findTimes_20 : decode cX1_findTimes 20 = .ok (.ifCond .ne 7, 3) := by decide +kernel
theorem dX1_findTimes_23 : decode cX1_findTimes 23 = .ok (.iconst 0, 1) := by decide +kernel
theorem dX1_findTimes_24 : decode cX1_findTimes 24 = .ok (.goto 11, 3) := by decide +kernel
theorem dX1_findTimes_27 : decode cX1_findTimes 27 = .ok (.iconst 1, 1) := by decide +kernel
theorem dX1_findTimes_28 : decode cX1_findTimes 28 = .ok (.aload_n 0, 1) := by decide +kernel
theorem dX1_findTimes_29 : decode cX1_findTimes 29 = .ok (.getfield 18, 3) := by decide +kernel
theorem dX1_findTimes_32 : decode cX1_findTimes 32 = .ok (.iconst 1, 1) := by decide +kernel
theorem dX1_findTimes_33 : decode cX1_findTimes 33 = .ok (.isub, 1) := by decide +kernel
theorem dX1_findTimes_34 : decode cX1_findTimes 34 = .ok (.ishl, 1) := by decide +kernel
theorem dX1_findTimes_35 : decode cX1_findTimes 35 = .ok (.istore_n 1, 1) := by decide +kernel
theorem dX1_findTimes_36 : decode cX1_findTimes 36 = .ok (.iconst 0, 1) := by decide +kernel
theorem dX1_findTimes_37 : decode cX1_findTimes 37 = .ok (.istore_n 2, 1) := by decide +kernel
theorem dX1_findTimes_38 : decode cX1_findTimes 38 = .ok (.bipush (-12), 2) := by decide +kernel
theorem dX1_findTimes_40 : decode cX1_findTimes 40 = .ok (.istore_n 3, 1) := by decide +kernel
theorem dX1_findTimes_41 : decode cX1_findTimes 41 = .ok (.iload_n 3, 1) := by decide +kernel
theorem dX1_findTimes_42 : decode cX1_findTimes 42 = .ok (.sipush 720, 3) := by decide +kernel
theorem dX1_findTimes_45 : decode cX1_findTimes 45 = .ok (.if_icmp .ge 106, 3) := by decide +kernel
theorem dX1_findTimes_48 : decode cX1_findTimes 48 = .ok (.aload_n 0, 1) := by decide +kernel
theorem dX1_findTimes_49 : decode cX1_findTimes 49 = .ok (.getfield 9, 3) := by decide +kernel
theorem dX1_findTimes_52 : decode cX1_findTimes 52 = .ok (.iload_n 3, 1) := by decide +kernel
theorem dX1_findTimes_53 : decode cX1_findTimes 53 = .ok (.ifCond .ge 11, 3) := by decide +kernel
theorem dX1_findTimes_56 : decode cX1_findTimes 56 = .ok (.iload_n 3, 1) := by decide +kernel
theorem dX1_findTimes_57 : decode cX1_findTimes 57 = .ok (.sipush 720, 3) := by decide +kernel
theorem dX1_findTimes_60 : decode cX1_findTimes 60 = .ok (.iadd, 1) := by decide +kernel
theorem dX1_findTimes_61 : decode cX1_findTimes 61 = .ok (.goto 4, 3) := by decide +kernel
theorem dX1_findTimes_64 : decode cX1_findTimes 64 = .ok (.iload_n 3, 1) := by decide +kernel
theorem dX1_findTimes_65 : decode cX1_findTimes 65 = .ok (.iaload, 1) := by decide +kernel
theorem dX1_findTimes_66 : decode cX1_findTimes 66 = .ok (.istore 4, 2) := by decide +kernel
theorem dX1_findTimes_68 : decode cX1_findTimes 68 = .ok (.iload_n 2, 1) := by decide +kernel
theorem dX1_findTimes_69 : decode cX1_findTimes 69 = .ok (.iconst 1, 1) := by decide +kernel
theorem dX1_findTimes_70 : decode cX1_findTimes 70 = .ok (.ishl, 1) := by decide +kernel
theorem dX1_findTimes_71 : decode cX1_findTimes 71 = .ok (.iconst 1, 1) := by decide +kernel
theorem dX1_findTimes_72 : decode cX1_findTimes 72 = .ok (.ior, 1) := by decide +kernel
theorem dX1_findTimes_73 : decode cX1_findTimes 73 = .ok (.aload_n 0, 1) := by decide +kernel
theorem dX1_findTimes_74 : decode cX1_findTimes 74 = .ok (.getfield 15, 3) := by decide +kernel
theorem dX1_findTimes_77 : decode cX1_findTimes 77 = .ok (.iload 4, 2) := by decide +kernel
theorem dX1_findTimes_79 : decode cX1_findTimes 79 = .ok (.iconst 0, 1) := by decide +kernel
theorem dX1_findTimes_80 : decode cX1_findTimes 80 = .ok (.bipush 96, 2) := by decide +kernel
theorem dX1_findTimes_82 : decode cX1_findTimes 82 = .ok (.invokestatic 88, 3) := by decide +kernel
theorem dX1_findTimes_85 : decode cX1_findTimes 85 = .ok (.iaload, 1) := by decide +kernel
theorem dX1_findTimes_86 : decode cX1_findTimes 86 = .ok (.iand, 1) := by decide +kernel
theorem dX1_findTimes_87 : decode cX1_findTimes 87 = .ok (.istore_n 2, 1) := by decide +kernel
theorem dX1_findTimes_88 : decode cX1_findTimes 88 = .ok (.iload_n 3, 1) := by decide +kernel
theorem dX1_findTimes_89 : decode cX1_findTimes 89 = .ok (.ifCond .lt 56, 3) := by decide +kernel
theorem dX1_findTimes_92 : decode cX1_findTimes 92 = .ok (.iload_n 2, 1) := by decide +kernel
theorem dX1_findTimes_93 : decode cX1_findTimes 93 = .ok (.iload_n 1, 1) := by decide +kernel
theorem dX1_findTimes_94 : decode cX1_findTimes 94 = .ok (.iand, 1) := by decide +kernel
theorem dX1_findTimes_95 : decode cX1_findTimes 95 = .ok (.iload_n 1, 1) := by decide +kernel
theorem dX1_findTimes_96 : decode cX1_findTimes 96 = .ok (.if_icmp .ne 49, 3) := by decide +kernel
theorem dX1_findTimes_99 : decode cX1_findTimes 99 = .ok (.aload_n 0, 1) := by decide +kernel
theorem dX1_findTimes_100 : decode cX1_findTimes 100 = .ok (.dup, 1) := by decide +kernel
theorem dX1_findTimes_101 : decode cX1_findTimes 101 = .ok (.getfield 22, 3) := by decide +kernel
theorem dX1_findTimes_104 : decode cX1_findTimes 104 = .ok (.iconst 1, 1) := by decide +kernel
theorem dX1_findTimes_105 : decode cX1_findTimes 105 = .ok (.iadd, 1) := by decide +kernel
theorem dX1_findTimes_106 : decode cX1_findTimes 106 = .ok (.putfield 22, 3) := by decide +kernel
theorem dX1_findTimes_109 : decode cX1_findTimes 109 = .ok (.aload_n 0, 1) := by decide +kernel
theorem dX1_findTimes_110 : decode cX1_findTimes 110 = .ok (.dup, 1) := by decide +kernel
theorem dX1_findTimes_111 : decode cX1_findTimes 111 = .ok (.getfield 25, 3) := by decide +kernel
theorem dX1_findTimes_114 : decode cX1_findTimes 114 = .ok (.iconst 1, 1) := by decide +kernel
theorem dX1_findTimes_115 : decode cX1_findTimes 115 = .ok (.iload_n 3, 1) := by decide +kernel
theorem dX1_findTimes_116 : decode cX1_findTimes 116 = .ok (.bipush 60, 2) := by decide +kernel
theorem dX1_findTimes_118 : decode cX1_findTimes 118 = .ok (.idiv, 1) := by decide +kernel
theorem dX1_findTimes_119 : decode cX1_findTimes 119 = .ok (.ishl, 1) := by decide +kernel
theorem dX1_findTimes_120 : decode cX1_findTimes 120 = .ok (.ior, 1) := by decide +kernel
theorem dX1_findTimes_121 : decode cX1_findTimes 121 = .ok (.putfield 25, 3) := by decide +kernel
theorem dX1_findTimes_124 : decode cX1_findTimes 124 = .ok (.aload_n 0, 1) := by decide +kernel
theorem dX1_findTimes_125 : decode cX1_findTimes 125 = .ok (.aload_n 0, 1) := by decide +kernel
theorem dX1_findTimes_126 : decode cX1_findTimes 126 = .ok (.getfield 29, 3) := by decide +kernel
theorem dX1_findTimes_129 : decode cX1_findTimes 129 = .ok (.ldc 28, 2) := by decide +kernel
theorem dX1_findTimes_131 : decode cX1_findTimes 131 = .ok (.if_icmp .ne 7, 3) := by decide +kernel
theorem dX1_findTimes_134 : decode cX1_findTimes 134 = .ok (.iload_n 3, 1) := by decide +kernel
theorem dX1_findTimes_135 : decode cX1_findTimes 135 = .ok (.goto 7, 3) := by decide +kernel
theorem dX1_findTimes_138 : decode cX1_findTimes 138 = .ok (.aload_n 0, 1) := by decide +kernel
theorem dX1_findTimes_139 : decode cX1_findTimes 139 = .ok (.getfield 29, 3) := by decide +kernel
theorem dX1_findTimes_142 : decode cX1_findTimes 142 = .ok (.putfield 29, 3) := by decide +kernel
theorem dX1_findTimes_145 : decode cX1_findTimes 145 = .ok (.iinc 3 1, 3) := by decide +kernel
theorem dX1_findTimes_148 : decode cX1_findTimes 148 = .ok (.goto (-107), 3) := by decide +kernel
theorem dX1_findTimes_151 : decode cX1_findTimes 151 = .ok (.return_, 1) := by decide +kernel
theorem dX1_isSure_0 : decode cX1_isSure 0 = .ok (.aload_n 0, 1) := by decide +kernel
theorem dX1_isSure_1 : decode cX1_isSure 1 = .ok (.getfield 25, 3) := by decide +kernel
theorem dX1_isSure_4 : decode cX1_isSure 4 = .ok (.invokestatic 92, 3) := by decide +kernel
theorem dX1_isSure_7 : decode cX1_isSure 7 = .ok (.iconst 1, 1) := by decide +kernel
theorem dX1_isSure_8 : decode cX1_isSure 8 = .ok (.if_icmp .ne 7, 3) := by decide +kernel
theorem dX1_isSure_11 : decode cX1_isSure 11 = .ok (.iconst 1, 1) := by decide +kernel
theorem dX1_isSure_12 : decode cX1_isSure 12 = .ok (.goto 4, 3) := by decide +kernel
theorem dX1_isSure_15 : decode cX1_isSure 15 = .ok (.iconst 0, 1) := by decide +kernel
theorem dX1_isSure_16 : decode cX1_isSure 16 = .ok (.ireturn, 1) := by decide +kernel
theorem dX1_difference_0 : decode cX1_difference 0 = .ok (.iconst 0, 1) := by decide +kernel
theorem dX1_difference_1 : decode cX1_difference 1 = .ok (.istore_n 3, 1) := by decide +kernel
theorem dX1_difference_2 : decode cX1_difference 2 = .ok (.iconst 0, 1) := by decide +kernel
theorem dX1_difference_3 : decode cX1_difference 3 = .ok (.istore 4, 2) := by decide +kernel
theorem dX1_difference_5 : decode cX1_difference 5 = .ok (.iload 4, 2) := by decide +kernel
theorem dX1_difference_7 : decode cX1_difference 7 = .ok (.aload_n 1, 1) := by decide +kernel
theorem dX1_difference_8 : decode cX1_difference 8 = .ok (.getfield 98, 3) := by decide +kernel
theorem dX1_difference_11 : decode cX1_difference 11 = .ok (.if_icmp .ge 45, 3) := by decide +kernel
theorem dX1_difference_14 : decode cX1_difference 14 = .ok (.aload_n 1, 1) := by decide +kernel
theorem dX1_difference_15 : decode cX1_difference 15 = .ok (.iload 4, 2) := by decide +kernel
theorem dX1_difference_17 : decode cX1_difference 17 = .ok (.invokevirtual 103, 3) := by decide +kernel
theorem dX1_difference_20 : decode cX1_difference 20 = .ok (.ifCond .eq 30, 3) := by decide +kernel
theorem dX1_difference_23 : decode cX1_difference 23 = .ok (.iload_n 3, 1) := by decide +kernel
theorem dX1_difference_24 : decode cX1_difference 24 = .ok (.aload_n 0, 1) := by decide +kernel
theorem dX1_difference_25 : decode cX1_difference 25 = .ok (.getfield 9, 3) := by decide +kernel
theorem dX1_difference_28 : decode cX1_difference 28 = .ok (.iload_n 2, 1) := by decide +kernel
theorem dX1_difference_29 : decode cX1_difference 29 = .ok (.iload 4, 2) := by decide +kernel
theorem dX1_difference_31 : decode cX1_difference 31 = .ok (.iadd, 1) := by decide +kernel
theorem dX1_difference_32 : decode cX1_difference 32 = .ok (.sipush 720, 3) := by decide +kernel
theorem dX1_difference_35 : decode cX1_difference 35 = .ok (.irem, 1) := by decide +kernel
theorem dX1_difference_36 : decode cX1_difference 36 = .ok (.iaload, 1) := by decide +kernel
theorem dX1_difference_37 : decode cX1_difference 37 = .ok (.aload_n 1, 1) := by decide +kernel
theorem dX1_difference_38 : decode cX1_difference 38 = .ok (.getfield 107, 3) := by decide +kernel
theorem dX1_difference_41 : decode cX1_difference 41 = .ok (.iload 4, 2) := by decide +kernel
theorem dX1_difference_43 : decode cX1_difference 43 = .ok (.iaload, 1) := by decide +kernel
theorem dX1_difference_44 : decode cX1_difference 44 = .ok (.isub, 1) := by decide +kernel
theorem dX1_difference_45 : decode cX1_difference 45 = .ok (.invokestatic 110, 3) := by decide +kernel
theorem dX1_difference_48 : decode cX1_difference 48 = .ok (.iadd, 1) := by decide +kernel
theorem dX1_difference_49 : decode cX1_difference 49 = .ok (.istore_n 3, 1) := by decide +kernel
theorem dX1_difference_50 : decode cX1_difference 50 = .ok (.iinc 4 1, 3) := by decide +kernel
theorem dX1_difference_53 : decode cX1_difference 53 = .ok (.goto (-48), 3) := by decide +kernel
theorem dX1_difference_56 : decode cX1_difference 56 = .ok (.iload_n 3, 1) := by decide +kernel
theorem dX1_difference_57 : decode cX1_difference 57 = .ok (.ireturn, 1) := by decide +kernel
theorem dX2_init_0 : decode cX2_init 0 = .ok (.aload_n 0, 1) := by decide +kernel
theorem dX2_init_1 : decode cX2_init 1 = .ok (.invokespecial 3, 3) := by decide +kernel
theorem dX2_init_4 : decode cX2_init 4 = .ok (.aload_n 0, 1) := by decide +kernel
theorem dX2_init_5 : decode cX2_init 5 = .ok (.bipush 6, 2) := by decide +kernel
theorem dX2_init_7 : decode cX2_init 7 = .ok (.anewarray 9, 3) := by decide +kernel
theorem dX2_init_10 : decode cX2_init 10 = .ok (.putfield 11, 3) := by decide +kernel
theorem dX2_init_13 : decode cX2_init 13 = .ok (.aload_n 0, 1) := by decide +kernel
theorem dX2_init_14 : decode cX2_init 14 = .ok (.iconst 0, 1) := by decide +kernel
theorem dX2_init_15 : decode cX2_init 15 = .ok (.putfield 17, 3) := by decide +kernel
theorem dX2_init_18 : decode cX2_init 18 = .ok (.aload_n 0, 1) := by decide +kernel
theorem dX2_init_19 : decode cX2_init 19 = .ok (.bipush 100, 2) := by decide +kernel
theorem dX2_init_21 : decode cX2_init 21 = .ok (.putfield 21, 3) := by decide +kernel
theorem dX2_init_24 : decode cX2_init 24 = .ok (.aload_n 0, 1) := by decide +kernel
theorem dX2_init_25 : decode cX2_init 25 = .ok (.iconst 0, 1) := by decide +kernel
theorem dX2_init_26 : decode cX2_init 26 = .ok (.putfield 24, 3) := by decide +kernel
theorem dX2_init_29 : decode cX2_init 29 = .ok (.aload_n 0, 1) := by decide +kernel
theorem dX2_init_30 : decode cX2_init 30 = .ok (.iconst 0, 1) := by decide +kernel
theorem dX2_init_31 : decode cX2_init 31 = .ok (.putfield 27, 3) := by decide +kernel
theorem dX2_init_34 : decode cX2_init 34 = .ok (.aload_n 0, 1) := by decide +kernel
theorem dX2_init_35 : decode cX2_init 35 = .ok (.iconst 0, 1) := by decide +kernel
theorem dX2_init_36 : decode cX2_init 36 = .ok (.putfield 30, 3) := by decide +kernel
theorem dX2_init_39 : decode cX2_init 39 = .ok (.aload_n 0, 1) := by decide +kernel
theorem dX2_init_40 : decode cX2_init 40 = .ok (.iconst 0, 1) := by decide +kernel
theorem dX2_init_41 : decode cX2_init 41 = .ok (.putfield 33, 3) := by decide +kernel
theorem dX2_init_44 : decode cX2_init 44 = .ok (.aload_n 0, 1) := by decide +kernel
theorem dX2_init_45 : decode cX2_init 45 = .ok (.iconst 0, 1) := by decide +kernel
theorem dX2_init_46 : decode cX2_init 46 = .ok (.putfield 36, 3) := by decide +kernel
theorem dX2_init_49 : decode cX2_init 49 = .ok (.aload_n 0, 1) := by decide +kernel
theorem dX2_init_50 : decode cX2_init 50 = .ok (.iconst 1, 1) := by decide +kernel
theorem dX2_init_51 : decode cX2_init 51 = .ok (.putfield 39, 3) := by decide +kernel
theorem dX2_init_54 : decode cX2_init 54 = .ok (.aload_n 0, 1) := by decide +kernel
theorem dX2_init_55 : decode cX2_init 55 = .ok (.bipush 12, 2) := by decide +kernel
theorem dX2_init_57 : decode cX2_init 57 = .ok (.newarray .int, 2) := by decide +kernel
theorem dX2_init_59 : decode cX2_init 59 = .ok (.putfield 42, 3) := by decide +kernel
theorem dX2_init_62 : decode cX2_init 62 = .ok (.aload_n 0, 1) := by decide +kernel
theorem dX2_init_63 : decode cX2_init 63 = .ok (.iconst 0, 1) := by decide +kernel
theorem dX2_init_64 : decode cX2_init 64 = .ok (.putfield 46, 3) := by decide +kernel
theorem dX2_init_67 : decode cX2_init 67 = .ok (.aload_n 0, 1) := by decide +kernel
theorem dX2_init_68 : decode cX2_init 68 = .ok (.bipush 14, 2) := by decide +kernel
theorem dX2_init_70 : decode cX2_init 70 = .ok (.anewarray 49, 3) := by decide +kernel
theorem dX2_init_73 : decode cX2_init 73 = .ok (.putfield 51, 3) := by decide +kernel
theorem dX2_init_76 : decode cX2_init 76 = .ok (.aload_n 0, 1) := by decide +kernel
theorem dX2_init_77 : decode cX2_init 77 = .ok (.iconst 0, 1) := by decide +kernel
theorem dX2_init_78 : decode cX2_init 78 = .ok (.putfield 55, 3) := by decide +kernel
theorem dX2_init_81 : decode cX2_init 81 = .ok (.aload_n 0, 1) := by decide +kernel
theorem dX2_init_82 : decode cX2_init 82 = .ok (.iconst 3, 1) := by decide +kernel
theorem dX2_init_83 : decode cX2_init 83 = .ok (.newarray .int, 2) := by decide +kernel
theorem dX2_init_85 : decode cX2_init 85 = .ok (.dup, 1) := by decide +kernel
theorem dX2_init_86 : decode cX2_init 86 = .ok (.iconst 0, 1) := by decide +kernel
theorem dX2_init_87 : decode cX2_init 87 = .ok (.ldc 58, 2) := by decide +kernel
theorem dX2_init_89 : decode cX2_init 89 = .ok (.iastore, 1) := by decide +kernel
theorem dX2_init_90 : decode cX2_init 90 = .ok (.dup, 1) := by decide +kernel
theorem dX2_init_91 : decode cX2_init 91 = .ok (.iconst 1, 1) := by decide +kernel
theorem dX2_init_92 : decode cX2_init 92 = .ok (.ldc 58, 2) := by decide +kernel
theorem dX2_init_94 : decode cX2_init 94 = .ok (.iastore, 1) := by decide +kernel
theorem dX2_init_95 : decode cX2_init 95 = .ok (.dup, 1) := by decide +kernel
theorem dX2_init_96 : decode cX2_init 96 = .ok (.iconst 2, 1) := by decide +kernel
theorem dX2_init_97 : decode cX2_init 97 = .ok (.ldc 58, 2) := by decide +kernel
theorem dX2_init_99 : decode cX2_init 99 = .ok (.iastore, 1) := by decide +kernel
theorem dX2_init_100 : decode cX2_init 100 = .ok (.putfield 59, 3) := by decide +kernel
theorem dX2_init_103 : decode cX2_init 103 = .ok (.iconst 0, 1) := by decide +kernel
theorem dX2_init_104 : decode cX2_init 104 = .ok (.istore_n 1, 1) := by decide +kernel
theorem dX2_init_105 : decode cX2_init 105 = .ok (.iload_n 1, 1) := by decide +kernel
theorem dX2_init_106 : decode cX2_init 106 = .ok (.bipush 6, 2) := by decide +kernel
theorem dX2_init_108 : decode cX2_init 108 = .ok (.if_icmp .ge 22, 3) := by decide +kernel
theorem dX2_init_111 : decode cX2_init 111 = .ok (.aload_n 0, 1) := by decide +kernel
theorem dX2_init_112 : decode cX2_init 112 = .ok (.getfield 11, 3) := by decide +kernel
theorem dX2_init_115 : decode cX2_init 115 = .ok (.iload_n 1, 1) := by decide +kernel
theorem dX2_init_116 : decode cX2_init 116 = .ok (.new 9, 3) := by decide +kernel
theorem dX2_init_119 : decode cX2_init 119 = .ok (.dup, 1) := by decide +kernel
theorem dX2_init_120 : decode cX2_init 120 = .ok (.invokespecial 62, 3) := by decide +kernel
theorem dX2_init_123 : decode cX2_init 123 = .ok (.aastore, 1) := by decide +kernel
theorem dX2_init_124 : decode cX2_init 124 = .ok (.iinc 1 1, 3) := by decide +kernel
theorem dX2_init_127 : decode cX2_init 127 = .ok (.goto (-22), 3) := by decide +kernel
theorem dX2_init_130 : decode cX2_init 130 = .ok (.return_, 1) := by decide +kernel
theorem dX2_take_0 : decode cX2_take 0 = .ok (.iconst 0, 1) := by decide +kernel
theorem dX2_take_1 : decode cX2_take 1 = .ok (.istore_n 2, 1) := by decide +kernel
theorem dX2_take_2 : decode cX2_take 2 = .ok (.iload_n 2, 1) := by decide +kernel
theorem dX2_take_3 : decode cX2_take 3 = .ok (.bipush 6, 2) := by decide +kernel
theorem dX2_take_5 : decode cX2_take 5 = .ok (.if_icmp .ge 24, 3) := by decide +kernel
theorem dX2_take_8 : decode cX2_take 8 = .ok (.aload_n 0, 1) := by decide +kernel
theorem dX2_take_9 : decode cX2_take 9 = .ok (.getfield 11, 3) := by decide +kernel
theorem dX2_take_12 : decode cX2_take 12 = .ok (.iload_n 2, 1) := by decide +kernel
theorem dX2_take_13 : decode cX2_take 13 = .ok (.aaload, 1) := by decide +kernel
theorem dX2_take_14 : decode cX2_take 14 = .ok (.aload_n 1, 1) := by decide +kernel
theorem dX2_take_15 : decode cX2_take 15 = .ok (.getfield 11, 3) := by decide +kernel
theorem dX2_take_18 : decode cX2_take 18 = .ok (.iload_n 2, 1) := by decide +kernel
theorem dX2_take_19 : decode cX2_take 19 = .ok (.aaload, 1) := by decide +kernel
theorem dX2_take_20 : decode cX2_take 20 = .ok (.invokevirtual 63, 3) := by decide +kernel
theorem dX2_take_23 : decode cX2_take 23 = .ok (.iinc 2 1, 3) := by decide +kernel
theorem dX2_take_26 : decode cX2_take 26 = .ok (.goto (-24), 3) := by decide +kernel
theorem dX2_take_29 : decode cX2_take 29 = .ok (.aload_n 0, 1) := by decide +kernel
theorem dX2_take_30 : decode cX2_take 30 = .ok (.aload_n 1, 1) := by decide +kernel
theorem dX2_take_31 : decode cX2_take 31 = .ok (.getfield 17, 3) := by decide +kernel
theorem dX2_take_34 : decode cX2_take 34 = .ok (.putfield 17, 3) := by decide +kernel
theorem dX2_take_37 : decode cX2_take 37 = .ok (.aload_n 0, 1) := by decide +kernel
theorem dX2_take_38 : decode cX2_take 38 = .ok (.aload_n 1, 1) := by decide +kernel
theorem dX2_take_39 : decode cX2_take 39 = .ok (.getfield 21, 3) := by decide +kernel
theorem dX2_take_42 : decode cX2_take 42 = .ok (.putfield 21, 3) := by decide +kernel
theorem dX2_take_45 : decode cX2_take 45 = .ok (.aload_n 0, 1) := by decide +kernel
theorem dX2_take_46 : decode cX2_take 46 = .ok (.aload_n 1, 1) := by decide +kernel
theorem dX2_take_47 : decode cX2_take 47 = .ok (.getfield 24, 3) := by decide +kernel
theorem dX2_take_50 : decode cX2_take 50 = .ok (.putfield 24, 3) := by decide +kernel
theorem dX2_take_53 : decode cX2_take 53 = .ok (.aload_n 0, 1) := by decide +kernel
theorem dX2_take_54 : decode cX2_take 54 = .ok (.aload_n 1, 1) := by decide +kernel
theorem dX2_take_55 : decode cX2_take 55 = .ok (.getfield 27, 3) := by decide +kernel
theorem dX2_take_58 : decode cX2_take 58 = .ok (.putfield 27, 3) := by decide +kernel
theorem dX2_take_61 : decode cX2_take 61 = .ok (.aload_n 0, 1) := by decide +kernel
theorem dX2_take_62 : decode cX2_take 62 = .ok (.aload_n 1, 1) := by decide +kernel
theorem dX2_take_63 : decode cX2_take 63 = .ok (.getfield 30, 3) := by decide +kernel
theorem dX2_take_66 : decode cX2_take 66 = .ok (.putfield 30, 3) := by decide +kernel
theorem dX2_take_69 : decode cX2_take 69 = .ok (.aload_n 0, 1) := by decide +kernel
theorem dX2_take_70 : decode cX2_take 70 = .ok (.aload_n 1, 1) := by decide +kernel
theorem dX2_take_71 : decode cX2_take 71 = .ok (.getfield 33, 3) := by decide +kernel
theorem dX2_take_74 : decode cX2_take 74 = .ok (.putfield 33, 3) := by decide +kernel
theorem dX2_take_77 : decode cX2_take 77 = .ok (.aload_n 0, 1) := by decide +kernel
theorem dX2_take_78 : decode cX2_take 78 = .ok (.aload_n 1, 1) := by decide +kernel
theorem dX2_take_79 : decode cX2_take 79 = .ok (.getfield 36, 3) := by decide +kernel
theorem dX2_take_82 : decode cX2_take 82 = .ok (.putfield 36, 3) := by decide +kernel
theorem dX2_take_85 : decode cX2_take 85 = .ok (.aload_n 0, 1) := by decide +kernel
theorem dX2_take_86 : decode cX2_take 86 = .ok (.aload_n 1, 1) := by decide +kernel
theorem dX2_take_87 : decode cX2_take 87 = .ok (.getfield 39, 3) := by decide +kernel
theorem dX2_take_90 : decode cX2_take 90 = .ok (.putfield 39, 3) := by decide +kernel
theorem dX2_take_93 : decode cX2_take 93 = .ok (.aload_n 1, 1) := by decide +kernel
theorem dX2_take_94 : decode cX2_take 94 = .ok (.getfield 42, 3) := by decide +kernel
theorem dX2_take_97 : decode cX2_take 97 = .ok (.iconst 0, 1) := by decide +kernel
theorem dX2_take_98 : decode cX2_take 98 = .ok (.aload_n 0, 1) := by decide +kernel
theorem dX2_take_99 : decode cX2_take 99 = .ok (.getfield 42, 3) := by decide +kernel
theorem dX2_take_102 : decode cX2_take 102 = .ok (.iconst 0, 1) := by decide +kernel
theorem dX2_take_103 : decode cX2_take 103 = .ok (.bipush 12, 2) := by decide +kernel
theorem dX2_take_105 : decode cX2_take 105 = .ok (.invokestatic 67, 3) := by decide +kernel
theorem dX2_take_108 : decode cX2_take 108 = .ok (.aload_n 0, 1) := by decide +kernel
theorem dX2_take_109 : decode cX2_take 109 = .ok (.aload_n 1, 1) := by decide +kernel
theorem dX2_take_110 : decode cX2_take 110 = .ok (.getfield 46, 3) := by decide +kernel
theorem dX2_take_113 : decode cX2_take 113 = .ok (.putfield 46, 3) := by decide +kernel
theorem dX2_take_116 : decode cX2_take 116 = .ok (.iconst 0, 1) := by decide +kernel
theorem dX2_take_117 : decode cX2_take 117 = .ok (.istore_n 2, 1) := by decide +kernel
theorem dX2_take_118 : decode cX2_take 118 = .ok (.iload_n 2, 1) := by decide +kernel
theorem dX2_take_119 : decode cX2_take 119 = .ok (.bipush 14, 2) := by decide +kernel
theorem dX2_take_121 : decode cX2_take 121 = .ok (.if_icmp .ge 21, 3) := by decide +kernel
theorem dX2_take_124 : decode cX2_take 124 = .ok (.aload_n 0, 1) := by decide +kernel
theorem dX2_take_125 : decode cX2_take 125 = .ok (.getfield 51, 3) := by decide +kernel
theorem dX2_take_128 : decode cX2_take 128 = .ok (.iload_n 2, 1) := by decide +kernel
theorem dX2_take_129 : decode cX2_take 129 = .ok (.aload_n 1, 1) := by decide +kernel
theorem dX2_take_130 : decode cX2_take 130 = .ok (.getfield 51, 3) := by decide +kernel
theorem dX2_take_133 : decode cX2_take 133 = .ok (.iload_n 2, 1) := by decide +kernel
theorem dX2_take_134 : decode cX2_take 134 = .ok (.aaload, 1) := by decide +kernel
theorem dX2_take_135 : decode cX2_take 135 = .ok (.aastore, 1) := by decide +kernel
theorem dX2_take_136 : decode cX2_take 136 = .ok (.iinc 2 1, 3) := by decide +kernel
theorem dX2_take_139 : decode cX2_take 139 = .ok (.goto (-21), 3) := by decide +kernel
theorem dX2_take_142 : decode cX2_take 142 = .ok (.aload_n 0, 1) := by decide +kernel
theorem dX2_take_143 : decode cX2_take 143 = .ok (.aload_n 1, 1) := by decide +kernel
theorem dX2_take_144 : decode cX2_take 144 = .ok (.getfield 55, 3) := by decide +kernel
theorem dX2_take_147 : decode cX2_take 147 = .ok (.putfield 55, 3) := by decide +kernel
theorem dX2_take_150 : decode cX2_take 150 = .ok (.aload_n 1, 1) := by decide +kernel
theorem dX2_take_151 : decode cX2_take 151 = .ok (.getfield 59, 3) := by decide +kernel
theorem dX2_take_154 : decode cX2_take 154 = .ok (.iconst 0, 1) := by decide +kernel
theorem dX2_take_155 : decode cX2_take 155 = .ok (.aload_n 0, 1) := by decide +kernel
theorem dX2_take_156 : decode cX2_take 156 = .ok (.getfield 59, 3) := by decide +kernel
theorem dX2_take_159 : decode cX2_take 159 = .ok (.iconst 0, 1) := by decide +kernel
theorem dX2_take_160 : decode cX2_take 160 = .ok (.iconst 3, 1) := by decide +kernel
theorem dX2_take_161 : decode cX2_take 161 = .ok (.invokestatic 67, 3) := by decide +kernel
theorem dX2_take_164 : decode cX2_take 164 = .ok (.return_, 1) := by decide +kernel
theorem dX2_hasClock_0 : decode cX2_hasClock 0 = .ok (.iload_n 1, 1) := by decide +kernel
theorem dX2_hasClock_1 : decode cX2_hasClock 1 = .ok (.aload_n 0, 1) := by decide +kernel
theorem dX2_hasClock_2 : decode cX2_hasClock 2 = .ok (.getfield 17, 3) := by decide +kernel
theorem dX2_hasClock_5 : decode cX2_hasClock 5 = .ok (.invokestatic 73, 3) := by decide +kernel
theorem dX2_hasClock_8 : decode cX2_hasClock 8 = .ok (.ireturn, 1) := by decide +kernel
theorem dX2_addClock_0 : decode cX2_addClock 0 = .ok (.aload_n 0, 1) := by decide +kernel
theorem dX2_addClock_1 : decode cX2_addClock 1 = .ok (.getfield 17, 3) := by decide +kernel
theorem dX2_addClock_4 : decode cX2_addClock 4 = .ok (.bipush 6, 2) := by decide +kernel
theorem dX2_addClock_6 : decode cX2_addClock 6 = .ok (.if_icmp .lt 4, 3) := by decide +kernel
theorem dX2_addClock_9 : decode cX2_addClock 9 = .ok (.return_, 1) := by decide +kernel
theorem dX2_addClock_10 : decode cX2_addClock 10 = .ok (.aload_n 0, 1) := by decide +kernel
theorem dX2_addClock_11 : decode cX2_addClock 11 = .ok (.getfield 11, 3) := by decide +kernel
theorem dX2_addClock_14 : decode cX2_addClock 14 = .ok (.aload_n 0, 1) := by decide +kernel
theorem dX2_addClock_15 : decode cX2_addClock 15 = .ok (.getfield 17, 3) := by decide +kernel
theorem dX2_addClock_18 : decode cX2_addClock 18 = .ok (.aaload, 1) := by decide +kernel
theorem dX2_addClock_19 : decode cX2_addClock 19 = .ok (.astore 4, 2) := by decide +kernel
theorem dX2_addClock_21 : decode cX2_addClock 21 = .ok (.aload 4, 2) := by decide +kernel
theorem dX2_addClock_23 : decode cX2_addClock 23 = .ok (.iload_n 1, 1) := by decide +kernel
theorem dX2_addClock_24 : decode cX2_addClock 24 = .ok (.putfield 77, 3) := by decide +kernel
theorem dX2_addClock_27 : decode cX2_addClock 27 = .ok (.aload 4, 2) := by decide +kernel
theorem dX2_addClock_29 : decode cX2_addClock 29 = .ok (.iload_n 2, 1) := by decide +kernel
theorem dX2_addClock_30 : decode cX2_addClock 30 = .ok (.putfield 80, 3) := by decide +kernel
theorem dX2_addClock_33 : decode cX2_addClock 33 = .ok (.aload 4, 2) := by decide +kernel
theorem dX2_addClock_35 : decode cX2_addClock 35 = .ok (.iload_n 3, 1) := by decide +kernel
theorem dX2_addClock_36 : decode cX2_addClock 36 = .ok (.putfield 83, 3) := by decide +kernel
theorem dX2_addClock_39 : decode cX2_addClock 39 = .ok (.aload_n 0, 1) := by decide +kernel
theorem dX2_addClock_40 : decode cX2_addClock 40 = .ok (.dup, 1) := by decide +kernel
theorem dX2_addClock_41 : decode cX2_addClock 41 = .ok (.getfield 17, 3) := by decide +kernel
theorem dX2_addClock_44 : decode cX2_addClock 44 = .ok (.iconst 1, 1) := by decide +kernel
theorem dX2_addClock_45 : decode cX2_addClock 45 = .ok (.iadd, 1) := by decide +kernel
theorem dX2_addClock_46 : decode cX2_addClock 46 = .ok (.putfield 17, 3) := by decide +kernel
theorem dX2_addClock_49 : decode cX2_addClock 49 = .ok (.return_, 1) := by decide +kernel
theorem dX2_draw_0 : decode cX2_draw 0 = .ok (.aload_n 0, 1) := by decide +kernel
theorem dX2_draw_1 : decode cX2_draw 1 = .ok (.aload_n 0, 1) := by decide +kernel
theorem dX2_draw_2 : decode cX2_draw 2 = .ok (.getfield 39, 3) := by decide +kernel
theorem dX2_draw_5 : decode cX2_draw 5 = .ok (.ldc 86, 2) := by decide +kernel
theorem dX2_draw_7 : decode cX2_draw 7 = .ok (.imul, 1) := by decide +kernel
theorem dX2_draw_8 : decode cX2_draw 8 = .ok (.sipush 12345, 3) := by decide +kernel
theorem dX2_draw_11 : decode cX2_draw 11 = .ok (.iadd, 1) := by decide +kernel
theorem dX2_draw_12 : decode cX2_draw 12 = .ok (.putfield 39, 3) := by decide +kernel
theorem dX2_draw_15 : decode cX2_draw 15 = .ok (.aload_n 0, 1) := by decide +kernel
theorem dX2_draw_16 : decode cX2_draw 16 = .ok (.getfield 39, 3) := by decide +kernel
theorem dX2_draw_19 : decode cX2_draw 19 = .ok (.bipush 8, 2) := by decide +kernel
theorem dX2_draw_21 : decode cX2_draw 21 = .ok (.iushr, 1) := by decide +kernel
theorem dX2_draw_22 : decode cX2_draw 22 = .ok (.ireturn, 1) := by decide +kernel
theorem dX2_timeNow_0 : decode cX2_timeNow 0 = .ok (.aload_n 0, 1) := by decide +kernel
theorem dX2_timeNow_1 : decode cX2_timeNow 1 = .ok (.getfield 36, 3) := by decide +kernel
theorem dX2_timeNow_4 : decode cX2_timeNow 4 = .ok (.sipush 720, 3) := by decide +kernel
theorem dX2_timeNow_7 : decode cX2_timeNow 7 = .ok (.irem, 1) := by decide +kernel
theorem dX2_timeNow_8 : decode cX2_timeNow 8 = .ok (.ireturn, 1) := by decide +kernel
theorem dX2_bedCount_0 : decode cX2_bedCount 0 = .ok (.iload_n 1, 1) := by decide +kernel
theorem dX2_bedCount_1 : decode cX2_bedCount 1 = .ok (.tableswitch 42 0 2 #[27, 32, 37], 27) := by decide +kernel
theorem dX2_bedCount_28 : decode cX2_bedCount 28 = .ok (.aload_n 0, 1) := by decide +kernel
theorem dX2_bedCount_29 : decode cX2_bedCount 29 = .ok (.getfield 27, 3) := by decide +kernel
theorem dX2_bedCount_32 : decode cX2_bedCount 32 = .ok (.ireturn, 1) := by decide +kernel
theorem dX2_bedCount_33 : decode cX2_bedCount 33 = .ok (.aload_n 0, 1) := by decide +kernel
theorem dX2_bedCount_34 : decode cX2_bedCount 34 = .ok (.getfield 30, 3) := by decide +kernel
theorem dX2_bedCount_37 : decode cX2_bedCount 37 = .ok (.ireturn, 1) := by decide +kernel
theorem dX2_bedCount_38 : decode cX2_bedCount 38 = .ok (.aload_n 0, 1) := by decide +kernel
theorem dX2_bedCount_39 : decode cX2_bedCount 39 = .ok (.getfield 33, 3) := by decide +kernel
theorem dX2_bedCount_42 : decode cX2_bedCount 42 = .ok (.ireturn, 1) := by decide +kernel
theorem dX2_bedCount_43 : decode cX2_bedCount 43 = .ok (.ldc 87, 2) := by decide +kernel
theorem dX2_bedCount_45 : decode cX2_bedCount 45 = .ok (.ireturn, 1) := by decide +kernel
theorem dX2_textAt_0 : decode cX2_textAt 0 = .ok (.iload_n 1, 1) := by decide +kernel
theorem dX2_textAt_1 : decode cX2_textAt 1 = .ok (.ifCond .lt 20, 3) := by decide +kernel
theorem dX2_textAt_4 : decode cX2_textAt 4 = .ok (.iload_n 1, 1) := by decide +kernel
theorem dX2_textAt_5 : decode cX2_textAt 5 = .ok (.aload_n 0, 1) := by decide +kernel
theorem dX2_textAt_6 : decode cX2_textAt 6 = .ok (.getfield 55, 3) := by decide +kernel
theorem dX2_textAt_9 : decode cX2_textAt 9 = .ok (.if_icmp .ge 12, 3) := by decide +kernel
theorem dX2_textAt_12 : decode cX2_textAt 12 = .ok (.aload_n 0, 1) := by decide +kernel
theorem dX2_textAt_13 : decode cX2_textAt 13 = .ok (.getfield 51, 3) := by decide +kernel
theorem dX2_textAt_16 : decode cX2_textAt 16 = .ok (.iload_n 1, 1) := by decide +kernel
theorem dX2_textAt_17 : decode cX2_textAt 17 = .ok (.aaload, 1) := by decide +kernel
theorem dX2_textAt_18 : decode cX2_textAt 18 = .ok (.goto 4, 3) := by decide +kernel
theorem dX2_textAt_21 : decode cX2_textAt 21 = .ok (.aconst_null, 1) := by decide +kernel
theorem dX2_textAt_22 : decode cX2_textAt 22 = .ok (.areturn, 1) := by decide +kernel
theorem dX2_law_0 : decode cX2_law 0 = .ok (.iload_n 1, 1) := by decide +kernel
theorem dX2_law_1 : decode cX2_law 1 = .ok (.iconst 3, 1) := by decide +kernel
theorem dX2_law_2 : decode cX2_law 2 = .ok (.invokestatic 73, 3) := by decide +kernel
theorem dX2_law_5 : decode cX2_law 5 = .ok (.ifCond .eq 16, 3) := by decide +kernel
theorem dX2_law_8 : decode cX2_law 8 = .ok (.aload_n 0, 1) := by decide +kernel
theorem dX2_law_9 : decode cX2_law 9 = .ok (.aload_n 0, 1) := by decide +kernel
theorem dX2_law_10 : decode cX2_law 10 = .ok (.getfield 59, 3) := by decide +kernel
theorem dX2_law_13 : decode cX2_law 13 = .ok (.iload_n 1, 1) := by decide +kernel
theorem dX2_law_14 : decode cX2_law 14 = .ok (.iaload, 1) := by decide +kernel
theorem dX2_law_15 : decode cX2_law 15 = .ok (.invokevirtual 88, 3) := by decide +kernel
theorem dX2_law_18 : decode cX2_law 18 = .ok (.goto 4, 3) := by decide +kernel
theorem dX2_law_21 : decode cX2_law 21 = .ok (.aconst_null, 1) := by decide +kernel
theorem dX2_law_22 : decode cX2_law 22 = .ok (.areturn, 1) := by decide +kernel
theorem dX2_addText_0 : decode cX2_addText 0 = .ok (.aload_n 0, 1) := by decide +kernel
theorem dX2_addText_1 : decode cX2_addText 1 = .ok (.getfield 55, 3) := by decide +kernel
theorem dX2_addText_4 : decode cX2_addText 4 = .ok (.bipush 14, 2) := by decide +kernel
theorem dX2_addText_6 : decode cX2_addText 6 = .ok (.if_icmp .ge 47, 3) := by decide +kernel
theorem dX2_addText_9 : decode cX2_addText 9 = .ok (.aload_n 1, 1) := by decide +kernel
theorem dX2_addText_10 : decode cX2_addText 10 = .ok (.getfield 92, 3) := by decide +kernel
theorem dX2_addText_13 : decode cX2_addText 13 = .ok (.iconst 3, 1) := by decide +kernel
theorem dX2_addText_14 : decode cX2_addText 14 = .ok (.invokestatic 73, 3) := by decide +kernel
theorem dX2_addText_17 : decode cX2_addText 17 = .ok (.ifCond .eq 36, 3) := by decide +kernel
theorem dX2_addText_20 : decode cX2_addText 20 = .ok (.aload_n 0, 1) := by decide +kernel
theorem dX2_addText_21 : decode cX2_addText 21 = .ok (.getfield 51, 3) := by decide +kernel
theorem dX2_addText_24 : decode cX2_addText 24 = .ok (.aload_n 0, 1) := by decide +kernel
theorem dX2_addText_25 : decode cX2_addText 25 = .ok (.getfield 55, 3) := by decide +kernel
theorem dX2_addText_28 : decode cX2_addText 28 = .ok (.aload_n 1, 1) := by decide +kernel
theorem dX2_addText_29 : decode cX2_addText 29 = .ok (.aastore, 1) := by decide +kernel
theorem dX2_addText_30 : decode cX2_addText 30 = .ok (.aload_n 0, 1) := by decide +kernel
theorem dX2_addText_31 : decode cX2_addText 31 = .ok (.getfield 59, 3) := by decide +kernel
theorem dX2_addText_34 : decode cX2_addText 34 = .ok (.aload_n 1, 1) := by decide +kernel
theorem dX2_addText_35 : decode cX2_addText 35 = .ok (.getfield 92, 3) := by decide +kernel
theorem dX2_addText_38 : decode cX2_addText 38 = .ok (.aload_n 0, 1) := by decide +kernel
theorem dX2_addText_39 : decode cX2_addText 39 = .ok (.getfield 55, 3) := by decide +kernel
theorem dX2_addText_42 : decode cX2_addText 42 = .ok (.iastore, 1) := by decide +kernel
theorem dX2_addText_43 : decode cX2_addText 43 = .ok (.aload_n 0, 1) := by decide +kernel
theorem dX2_addText_44 : decode cX2_addText 44 = .ok (.dup, 1) := by decide +kernel
theorem dX2_addText_45 : decode cX2_addText 45 = .ok (.getfield 55, 3) := by decide +kernel
theorem dX2_addText_48 : decode cX2_addText 48 = .ok (.iconst 1, 1) := by decide +kernel
theorem dX2_addText_49 : decode cX2_addText 49 = .ok (.iadd, 1) := by decide +kernel
theorem dX2_addText_50 : decode cX2_addText 50 = .ok (.putfield 55, 3) := by decide +kernel
theorem dX2_addText_53 : decode cX2_addText 53 = .ok (.return_, 1) := by decide +kernel
theorem dX2_againMinute_0 : decode cX2_againMinute 0 = .ok (.aload_n 0, 1) := by decide +kernel
theorem dX2_againMinute_1 : decode cX2_againMinute 1 = .ok (.iconst 0, 1) := by decide +kernel
theorem dX2_againMinute_2 : decode cX2_againMinute 2 = .ok (.invokevirtual 95, 3) := by decide +kernel
theorem dX2_againMinute_5 : decode cX2_againMinute 5 = .ok (.astore 4, 2) := by decide +kernel
theorem dX2_againMinute_7 : decode cX2_againMinute 7 = .ok (.aload 4, 2) := by decide +kernel
theorem dX2_againMinute_9 : decode cX2_againMinute 9 = .ok (.ifnonnull 7, 3) := by decide +kernel
theorem dX2_againMinute_12 : decode cX2_againMinute 12 = .ok (.iconst 2, 1) := by decide +kernel
theorem dX2_againMinute_13 : decode cX2_againMinute 13 = .ok (.goto 20, 3) := by decide +kernel
theorem dX2_againMinute_16 : decode cX2_againMinute 16 = .ok (.aload 4, 2) := by decide +kernel
theorem dX2_againMinute_18 : decode cX2_againMinute 18 = .ok (.iload_n 2, 1) := by decide +kernel
theorem dX2_againMinute_19 : decode cX2_againMinute 19 = .ok (.aload_n 1, 1) := by decide +kernel
theorem dX2_againMinute_20 : decode cX2_againMinute 20 = .ok (.getfield 83, 3) := by decide +kernel
theorem dX2_againMinute_23 : decode cX2_againMinute 23 = .ok (.iload_n 3, 1) := by decide +kernel
theorem dX2_againMinute_24 : decode cX2_againMinute 24 = .ok (.invokevirtual 98, 3) := by decide +kernel
theorem dX2_againMinute_27 : decode cX2_againMinute 27 = .ok (.iconst 1, 1) := by decide +kernel
theorem dX2_againMinute_28 : decode cX2_againMinute 28 = .ok (.bipush 14, 2) := by decide +kernel
theorem dX2_againMinute_30 : decode cX2_againMinute 30 = .ok (.invokestatic 102, 3) := by decide +kernel
theorem dX2_againMinute_33 : decode cX2_againMinute 33 = .ok (.ireturn, 1) := by decide +kernel
theorem dX2_strokesAt_0 : decode cX2_strokesAt 0 = .ok (.iload_n 2, 1) := by decide +kernel
theorem dX2_strokesAt_1 : decode cX2_strokesAt 1 = .ok (.aload_n 1, 1) := by decide +kernel
theorem dX2_strokesAt_2 : decode cX2_strokesAt 2 = .ok (.getfield 80, 3) := by decide +kernel
theorem dX2_strokesAt_5 : decode cX2_strokesAt 5 = .ok (.isub, 1) := by decide +kernel
theorem dX2_strokesAt_6 : decode cX2_strokesAt 6 = .ok (.sipush 720, 3) := by decide +kernel
theorem dX2_strokesAt_9 : decode cX2_strokesAt 9 = .ok (.invokestatic 105, 3) := by decide +kernel
theorem dX2_strokesAt_12 : decode cX2_strokesAt 12 = .ok (.istore_n 3, 1) := by decide +kernel
theorem dX2_strokesAt_13 : decode cX2_strokesAt 13 = .ok (.iload_n 3, 1) := by decide +kernel
theorem dX2_strokesAt_14 : decode cX2_strokesAt 14 = .ok (.bipush 60, 2) := by decide +kernel
theorem dX2_strokesAt_16 : decode cX2_strokesAt 16 = .ok (.if_icmp .ge 8, 3) := by decide +kernel
theorem dX2_strokesAt_19 : decode cX2_strokesAt 19 = .ok (.bipush 12, 2) := by decide +kernel
theorem dX2_strokesAt_21 : decode cX2_strokesAt 21 = .ok (.goto 7, 3) := by decide +kernel
theorem dX2_strokesAt_24 : decode cX2_strokesAt 24 = .ok (.iload_n 3, 1) := by decide +kernel
theorem dX2_strokesAt_25 : decode cX2_strokesAt 25 = .ok (.bipush 60, 2) := by decide +kernel
theorem dX2_strokesAt_27 : decode cX2_strokesAt 27 = .ok (.idiv, 1) := by decide +kernel
theorem dX2_strokesAt_28 : decode cX2_strokesAt 28 = .ok (.istore 4, 2) := by decide +kernel
theorem dX2_strokesAt_30 : decode cX2_strokesAt 30 = .ok (.iload_n 3, 1) := by decide +kernel
theorem dX2_strokesAt_31 : decode cX2_strokesAt 31 = .ok (.bipush 60, 2) := by decide +kernel
theorem dX2_strokesAt_33 : decode cX2_strokesAt 33 = .ok (.irem, 1) := by decide +kernel
theorem dX2_strokesAt_34 : decode cX2_strokesAt 34 = .ok (.istore 5, 2) := by decide +kernel
theorem dX2_strokesAt_36 : decode cX2_strokesAt 36 = .ok (.aload_n 1, 1) := by decide +kernel
theorem dX2_strokesAt_37 : decode cX2_strokesAt 37 = .ok (.getfield 77, 3) := by decide +kernel
theorem dX2_strokesAt_40 : decode cX2_strokesAt 40 = .ok (.iconst 2, 1) := by decide +kernel
theorem dX2_strokesAt_41 : decode cX2_strokesAt 41 = .ok (.invokestatic 111, 3) := by decide +kernel
theorem dX2_strokesAt_44 : decode cX2_strokesAt 44 = .ok (.ifCond .eq 20, 3) := by decide +kernel
theorem dX2_strokesAt_47 : decode cX2_strokesAt 47 = .ok (.iload 5, 2) := by decide +kernel
theorem dX2_strokesAt_49 : decode cX2_strokesAt 49 = .ok (.iconst 1, 1) := by decide +kernel
theorem dX2_strokesAt_50 : decode cX2_strokesAt 50 = .ok (.if_icmp .lt 14, 3) := by decide +kernel
theorem dX2_strokesAt_53 : decode cX2_strokesAt 53 = .ok (.iload 5, 2) := by decide +kernel
theorem dX2_strokesAt_55 : decode cX2_strokesAt 55 = .ok (.bipush 14, 2) := by decide +kernel
theorem dX2_strokesAt_57 : decode cX2_strokesAt 57 = .ok (.if_icmp .gt 7, 3) := by decide +kernel
theorem dX2_strokesAt_60 : decode cX2_strokesAt 60 = .ok (.iconst 1, 1) := by decide +kernel
theorem dX2_strokesAt_61 : decode cX2_strokesAt 61 = .ok (.goto 4, 3) := by decide +kernel
theorem dX2_strokesAt_64 : decode cX2_strokesAt 64 = .ok (.iconst 0, 1) := by decide +kernel
theorem dX2_strokesAt_65 : decode cX2_strokesAt 65 = .ok (.istore 6, 2) := by decide +kernel
theorem dX2_strokesAt_67 : decode cX2_strokesAt 67 = .ok (.iload 6, 2) := by decide +kernel
theorem dX2_strokesAt_69 : decode cX2_strokesAt 69 = .ok (.ifCond .eq 17, 3) := by decide +kernel
theorem dX2_strokesAt_72 : decode cX2_strokesAt 72 = .ok (.aload_n 0, 1) := by decide +kernel
theorem dX2_strokesAt_73 : decode cX2_strokesAt 73 = .ok (.aload_n 1, 1) := by decide +kernel
theorem dX2_strokesAt_74 : decode cX2_strokesAt 74 = .ok (.aload_n 1, 1) := by decide +kernel
theorem dX2_strokesAt_75 : decode cX2_strokesAt 75 = .ok (.getfield 80, 3) := by decide +kernel
theorem dX2_strokesAt_78 : decode cX2_strokesAt 78 = .ok (.iload 4, 2) := by decide +kernel
theorem dX2_strokesAt_80 : decode cX2_strokesAt 80 = .ok (.invokevirtual 114, 3) := by decide +kernel
theorem dX2_strokesAt_83 : decode cX2_strokesAt 83 = .ok (.goto 4, 3) := by decide +kernel
theorem dX2_strokesAt_86 : decode cX2_strokesAt 86 = .ok (.iconst 1, 1) := by decide +kernel
theorem dX2_strokesAt_87 : decode cX2_strokesAt 87 = .ok (.istore 7, 2) := by decide +kernel
theorem dX2_strokesAt_89 : decode cX2_strokesAt 89 = .ok (.aload_n 1, 1) := by decide +kernel
theorem dX2_strokesAt_90 : decode cX2_strokesAt 90 = .ok (.getfield 77, 3) := by decide +kernel
theorem dX2_strokesAt_93 : decode cX2_strokesAt 93 = .ok (.iload 4, 2) := by decide +kernel
theorem dX2_strokesAt_95 : decode cX2_strokesAt 95 = .ok (.iload 5, 2) := by decide +kernel
theorem dX2_strokesAt_97 : decode cX2_strokesAt 97 = .ok (.iload 7, 2) := by decide +kernel
theorem dX2_strokesAt_99 : decode cX2_strokesAt 99 = .ok (.invokestatic 118, 3) := by decide +kernel
theorem dX2_strokesAt_102 : decode cX2_strokesAt 102 = .ok (.ireturn, 1) := by decide +kernel
theorem dX2_strokesOfAllTimes_0 : decode cX2_strokesOfAllTimes 0 = .ok (.iconst 0, 1) := by decide +kernel
theorem dX2_strokesOfAllTimes_1 : decode cX2_strokesOfAllTimes 1 = .ok (.istore_n 2, 1) := by decide +kernel
theorem dX2_strokesOfAllTimes_2 : decode cX2_strokesOfAllTimes 2 = .ok (.iconst 0, 1) := by decide +kernel
theorem dX2_strokesOfAllTimes_3 : decode cX2_strokesOfAllTimes 3 = .ok (.istore_n 3, 1) := by decide +kernel
theorem dX2_strokesOfAllTimes_4 : decode cX2_strokesOfAllTimes 4 = .ok (.iload_n 3, 1) := by decide +kernel
theorem dX2_strokesOfAllTimes_5 : decode cX2_strokesOfAllTimes 5 = .ok (.sipush 720, 3) := by decide +kernel
theorem dX2_strokesOfAllTimes_8 : decode cX2_strokesOfAllTimes 8 = .ok (.if_icmp .ge 18, 3) := by decide +kernel
theorem dX2_strokesOfAllTimes_11 : decode cX2_strokesOfAllTimes 11 = .ok (.iload_n 2, 1) := by decide +kernel
theorem dX2_strokesOfAllTimes_12 : decode cX2_strokesOfAllTimes 12 = .ok (.aload_n 0, 1) := by decide +kernel
theorem dX2_strokesOfAllTimes_13 : decode cX2_strokesOfAllTimes 13 = .ok (.aload_n 1, 1) := by decide +kernel
theorem dX2_strokesOfAllTimes_14 : decode cX2_strokesOfAllTimes 14 = .ok (.iload_n 3, 1) := by decide +kernel
theorem dX2_strokesOfAllTimes_15 : decode cX2_strokesOfAllTimes 15 = .ok (.invokevirtual 122, 3) := by decide +kernel
theorem dX2_strokesOfAllTimes_18 : decode cX2_strokesOfAllTimes 18 = .ok (.iadd, 1) := by decide +kernel
theorem dX2_strokesOfAllTimes_19 : decode cX2_strokesOfAllTimes 19 = .ok (.istore_n 2, 1) := by decide +kernel
theorem dX2_strokesOfAllTimes_20 : decode cX2_strokesOfAllTimes 20 = .ok (.iinc 3 1, 3) := by decide +kernel
theorem dX2_strokesOfAllTimes_23 : decode cX2_strokesOfAllTimes 23 = .ok (.goto (-19), 3) := by decide +kernel
theorem dX2_strokesOfAllTimes_26 : decode cX2_strokesOfAllTimes 26 = .ok (.iload_n 2, 1) := by decide +kernel
theorem dX2_strokesOfAllTimes_27 : decode cX2_strokesOfAllTimes 27 = .ok (.ireturn, 1) := by decide +kernel
theorem dX2_totalAt_0 : decode cX2_totalAt 0 = .ok (.iconst 0, 1) := by decide +kernel
theorem dX2_totalAt_1 : decode cX2_totalAt 1 = .ok (.istore_n 2, 1) := by decide +kernel
theorem dX2_totalAt_2 : decode cX2_totalAt 2 = .ok (.iconst 0, 1) := by decide +kernel
theorem dX2_totalAt_3 : decode cX2_totalAt 3 = .ok (.istore_n 3, 1) := by decide +kernel
theorem dX2_totalAt_4 : decode cX2_totalAt 4 = .ok (.iload_n 3, 1) := by decide +kernel
theorem dX2_totalAt_5 : decode cX2_totalAt 5 = .ok (.aload_n 0, 1) := by decide +kernel
theorem dX2_totalAt_6 : decode cX2_totalAt 6 = .ok (.getfield 17, 3) := by decide +kernel
theorem dX2_totalAt_9 : decode cX2_totalAt 9 = .ok (.if_icmp .ge 23, 3) := by decide +kernel
theorem dX2_totalAt_12 : decode cX2_totalAt 12 = .ok (.iload_n 2, 1) := by decide +kernel
theorem dX2_totalAt_13 : decode cX2_totalAt 13 = .ok (.aload_n 0, 1) := by decide +kernel
theorem dX2_totalAt_14 : decode cX2_totalAt 14 = .ok (.aload_n 0, 1) := by decide +kernel
theorem dX2_totalAt_15 : decode cX2_totalAt 15 = .ok (.getfield 11, 3) := by decide +kernel
theorem dX2_totalAt_18 : decode cX2_totalAt 18 = .ok (.iload_n 3, 1) := by decide +kernel
theorem dX2_totalAt_19 : decode cX2_totalAt 19 = .ok (.aaload, 1) := by decide +kernel
theorem dX2_totalAt_20 : decode cX2_totalAt 20 = .ok (.iload_n 1, 1) := by decide +kernel
theorem dX2_totalAt_21 : decode cX2_totalAt 21 = .ok (.invokevirtual 122, 3) := by decide +kernel
theorem dX2_totalAt_24 : decode cX2_totalAt 24 = .ok (.iadd, 1) := by decide +kernel
theorem dX2_totalAt_25 : decode cX2_totalAt 25 = .ok (.istore_n 2, 1) := by decide +kernel
theorem dX2_totalAt_26 : decode cX2_totalAt 26 = .ok (.iinc 3 1, 3) := by decide +kernel
theorem dX2_totalAt_29 : decode cX2_totalAt 29 = .ok (.goto (-25), 3) := by decide +kernel
theorem dX2_totalAt_32 : decode cX2_totalAt 32 = .ok (.iload_n 2, 1) := by decide +kernel
theorem dX2_totalAt_33 : decode cX2_totalAt 33 = .ok (.ireturn, 1) := by decide +kernel
theorem dX2_passMinutes_0 : decode cX2_passMinutes 0 = .ok (.iconst 0, 1) := by decide +kernel
theorem dX2_passMinutes_1 : decode cX2_passMinutes 1 = .ok (.istore_n 2, 1) := by decide +kernel
theorem dX2_passMinutes_2 : decode cX2_passMinutes 2 = .ok (.iload_n 2, 1) := by decide +kernel
theorem dX2_passMinutes_3 : decode cX2_passMinutes 3 = .ok (.iload_n 1, 1) := by decide +kernel
theorem dX2_passMinutes_4 : decode cX2_passMinutes 4 = .ok (.if_icmp .ge 21, 3) := by decide +kernel
theorem dX2_passMinutes_7 : decode cX2_passMinutes 7 = .ok (.aload_n 0, 1) := by decide +kernel
theorem dX2_passMinutes_8 : decode cX2_passMinutes 8 = .ok (.aload_n 0, 1) := by decide +kernel
theorem dX2_passMinutes_9 : decode cX2_passMinutes 9 = .ok (.aload_n 0, 1) := by decide +kernel
theorem dX2_passMinutes_10 : decode cX2_passMinutes 10 = .ok (.invokevirtual 126, 3) := by decide +kernel
theorem dX2_passMinutes_13 : decode cX2_passMinutes 13 = .ok (.invokevirtual 130, 3) := by decide +kernel
theorem dX2_passMinutes_16 : decode cX2_passMinutes 16 = .ok (.invokevirtual 134, 3) := by decide +kernel
theorem dX2_passMinutes_19 : decode cX2_passMinutes 19 = .ok (.iinc 2 1, 3) := by decide +kernel
theorem dX2_passMinutes_22 : decode cX2_passMinutes 22 = .ok (.goto (-20), 3) := by decide +kernel
theorem dX2_passMinutes_25 : decode cX2_passMinutes 25 = .ok (.return_, 1) := by decide +kernel
theorem dX2_hearMinute_0 : decode cX2_hearMinute 0 = .ok (.iconst 0, 1) := by decide +kernel
theorem dX2_hearMinute_1 : decode cX2_hearMinute 1 = .ok (.istore_n 2, 1) := by decide +kernel
theorem dX2_hearMinute_2 : decode cX2_hearMinute 2 = .ok (.iconst 0, 1) := by decide +kernel
theorem dX2_hearMinute_3 : decode cX2_hearMinute 3 = .ok (.istore_n 3, 1) := by decide +kernel
theorem dX2_hearMinute_4 : decode cX2_hearMinute 4 = .ok (.iload_n 3, 1) := by decide +kernel
theorem dX2_hearMinute_5 : decode cX2_hearMinute 5 = .ok (.iload_n 1, 1) := by decide +kernel
theorem dX2_hearMinute_6 : decode cX2_hearMinute 6 = .ok (.if_icmp .ge 26, 3) := by decide +kernel
theorem dX2_hearMinute_9 : decode cX2_hearMinute 9 = .ok (.aload_n 0, 1) := by decide +kernel
theorem dX2_hearMinute_10 : decode cX2_hearMinute 10 = .ok (.invokevirtual 138, 3) := by decide +kernel
theorem dX2_hearMinute_13 : decode cX2_hearMinute 13 = .ok (.bipush 100, 2) := by decide +kernel
theorem dX2_hearMinute_15 : decode cX2_hearMinute 15 = .ok (.irem, 1) := by decide +kernel
theorem dX2_hearMinute_16 : decode cX2_hearMinute 16 = .ok (.aload_n 0, 1) := by decide +kernel
theorem dX2_hearMinute_17 : decode cX2_hearMinute 17 = .ok (.getfield 21, 3) := by decide +kernel
theorem dX2_hearMinute_20 : decode cX2_hearMinute 20 = .ok (.if_icmp .ge 6, 3) := by decide +kernel
theorem dX2_hearMinute_23 : decode cX2_hearMinute 23 = .ok (.iinc 2 1, 3) := by decide +kernel
theorem dX2_hearMinute_26 : decode cX2_hearMinute 26 = .ok (.iinc 3 1, 3) := by decide +kernel
theorem dX2_hearMinute_29 : decode cX2_hearMinute 29 = .ok (.goto (-25), 3) := by decide +kernel
theorem dX2_hearMinute_32 : decode cX2_hearMinute 32 = .ok (.aload_n 0, 1) := by decide +kernel
theorem dX2_hearMinute_33 : decode cX2_hearMinute 33 = .ok (.dup, 1) := by decide +kernel
theorem dX2_hearMinute_34 : decode cX2_hearMinute 34 = .ok (.getfield 27, 3) := by decide +kernel
theorem dX2_hearMinute_37 : decode cX2_hearMinute 37 = .ok (.iload_n 2, 1) := by decide +kernel
theorem dX2_hearMinute_38 : decode cX2_hearMinute 38 = .ok (.iadd, 1) := by decide +kernel
theorem dX2_hearMinute_39 : decode cX2_hearMinute 39 = .ok (.putfield 27, 3) := by decide +kernel
theorem dX2_hearMinute_42 : decode cX2_hearMinute 42 = .ok (.aload_n 0, 1) := by decide +kernel
theorem dX2_hearMinute_43 : decode cX2_hearMinute 43 = .ok (.dup, 1) := by decide +kernel
theorem dX2_hearMinute_44 : decode cX2_hearMinute 44 = .ok (.getfield 30, 3) := by decide +kernel
theorem dX2_hearMinute_47 : decode cX2_hearMinute 47 = .ok (.iload_n 1, 1) := by decide +kernel
theorem dX2_hearMinute_48 : decode cX2_hearMinute 48 = .ok (.iload_n 2, 1) := by decide +kernel
theorem dX2_hearMinute_49 : decode cX2_hearMinute 49 = .ok (.isub, 1) := by decide +kernel
theorem dX2_hearMinute_50 : decode cX2_hearMinute 50 = .ok (.iadd, 1) := by decide +kernel
theorem dX2_hearMinute_51 : decode cX2_hearMinute 51 = .ok (.putfield 30, 3) := by decide +kernel
theorem dX2_hearMinute_54 : decode cX2_hearMinute 54 = .ok (.aload_n 0, 1) := by decide +kernel
theorem dX2_hearMinute_55 : decode cX2_hearMinute 55 = .ok (.invokevirtual 138, 3) := by decide +kernel
theorem dX2_hearMinute_58 : decode cX2_hearMinute 58 = .ok (.bipush 100, 2) := by decide +kernel
theorem dX2_hearMinute_60 : decode cX2_hearMinute 60 = .ok (.irem, 1) := by decide +kernel
theorem dX2_hearMinute_61 : decode cX2_hearMinute 61 = .ok (.aload_n 0, 1) := by decide +kernel
theorem dX2_hearMinute_62 : decode cX2_hearMinute 62 = .ok (.getfield 24, 3) := by decide +kernel
theorem dX2_hearMinute_65 : decode cX2_hearMinute 65 = .ok (.if_icmp .ge 16, 3) := by decide +kernel
theorem dX2_hearMinute_68 : decode cX2_hearMinute 68 = .ok (.aload_n 0, 1) := by decide +kernel
theorem dX2_hearMinute_69 : decode cX2_hearMinute 69 = .ok (.dup, 1) := by decide +kernel
theorem dX2_hearMinute_70 : decode cX2_hearMinute 70 = .ok (.getfield 33, 3) := by decide +kernel
theorem dX2_hearMinute_73 : decode cX2_hearMinute 73 = .ok (.iconst 1, 1) := by decide +kernel
theorem dX2_hearMinute_74 : decode cX2_hearMinute 74 = .ok (.iadd, 1) := by decide +kernel
theorem dX2_hearMinute_75 : decode cX2_hearMinute 75 = .ok (.putfield 33, 3) := by decide +kernel
theorem dX2_hearMinute_78 : decode cX2_hearMinute 78 = .ok (.iinc 2 1, 3) := by decide +kernel
theorem dX2_hearMinute_81 : decode cX2_hearMinute 81 = .ok (.aload_n 0, 1) := by decide +kernel
theorem dX2_hearMinute_82 : decode cX2_hearMinute 82 = .ok (.getfield 42, 3) := by decide +kernel
theorem dX2_hearMinute_85 : decode cX2_hearMinute 85 = .ok (.iconst 0, 1) := by decide +kernel
theorem dX2_hearMinute_86 : decode cX2_hearMinute 86 = .ok (.aload_n 0, 1) := by decide +kernel
theorem dX2_hearMinute_87 : decode cX2_hearMinute 87 = .ok (.getfield 42, 3) := by decide +kernel
theorem dX2_hearMinute_90 : decode cX2_hearMinute 90 = .ok (.iconst 1, 1) := by decide +kernel
theorem dX2_hearMinute_91 : decode cX2_hearMinute 91 = .ok (.bipush 11, 2) := by decide +kernel
theorem dX2_hearMinute_93 : decode cX2_hearMinute 93 = .ok (.invokestatic 67, 3) := by decide +kernel
theorem dX2_hearMinute_96 : decode cX2_hearMinute 96 = .ok (.aload_n 0, 1) := by decide +kernel
theorem dX2_hearMinute_97 : decode cX2_hearMinute 97 = .ok (.getfield 42, 3) := by decide +kernel
theorem dX2_hearMinute_100 : decode cX2_hearMinute 100 = .ok (.iconst 0, 1) := by decide +kernel
theorem dX2_hearMinute_101 : decode cX2_hearMinute 101 = .ok (.iload_n 2, 1) := by decide +kernel
theorem dX2_hearMinute_102 : decode cX2_hearMinute 102 = .ok (.iastore, 1) := by decide +kernel
theorem dX2_hearMinute_103 : decode cX2_hearMinute 103 = .ok (.aload_n 0, 1) := by decide +kernel
theorem dX2_hearMinute_104 : decode cX2_hearMinute 104 = .ok (.bipush 12, 2) := by decide +kernel
theorem dX2_hearMinute_106 : decode cX2_hearMinute 106 = .ok (.aload_n 0, 1) := by decide +kernel
theorem dX2_hearMinute_107 : decode cX2_hearMinute 107 = .ok (.getfield 46, 3) := by decide +kernel
theorem dX2_hearMinute_110 : decode cX2_hearMinute 110 = .ok (.iconst 1, 1) := by decide +kernel
theorem dX2_hearMinute_111 : decode cX2_hearMinute 111 = .ok (.iadd, 1) := by decide +kernel
theorem dX2_hearMinute_112 : decode cX2_hearMinute 112 = .ok (.invokestatic 141, 3) := by decide +kernel
theorem dX2_hearMinute_115 : decode cX2_hearMinute 115 = .ok (.putfield 46, 3) := by decide +kernel
theorem dX2_hearMinute_118 : decode cX2_hearMinute 118 = .ok (.aload_n 0, 1) := by decide +kernel
theorem dX2_hearMinute_119 : decode cX2_hearMinute 119 = .ok (.dup, 1) := by decide +kernel
theorem dX2_hearMinute_120 : decode cX2_hearMinute 120 = .ok (.getfield 36, 3) := by decide +kernel
theorem dX2_hearMinute_123 : decode cX2_hearMinute 123 = .ok (.iconst 1, 1) := by decide +kernel
theorem dX2_hearMinute_124 : decode cX2_hearMinute 124 = .ok (.iadd, 1) := by decide +kernel
theorem dX2_hearMinute_125 : decode cX2_hearMinute 125 = .ok (.putfield 36, 3) := by decide +kernel
theorem dX2_hearMinute_128 : decode cX2_hearMinute 128 = .ok (.return_, 1) := by decide +kernel
theorem dX2_allows_0 : decode cX2_allows 0 = .ok (.aload_n 0, 1) := by decide +kernel
theorem dX2_allows_1 : decode cX2_allows 1 = .ok (.getfield 24, 3) := by decide +kernel
theorem dX2_allows_4 : decode cX2_allows 4 = .ok (.ifCond .le 9, 3) := by decide +kernel
theorem dX2_allows_7 : decode cX2_allows 7 = .ok (.iload_n 2, 1) := by decide +kernel
theorem dX2_allows_8 : decode cX2_allows 8 = .ok (.iconst 1, 1) := by decide +kernel
theorem dX2_allows_9 : decode cX2_allows 9 = .ok (.iadd, 1) := by decide +kernel
theorem dX2_allows_10 : decode cX2_allows 10 = .ok (.goto 4, 3) := by decide +kernel
theorem dX2_allows_13 : decode cX2_allows 13 = .ok (.iload_n 2, 1) := by decide +kernel
theorem dX2_allows_14 : decode cX2_allows 14 = .ok (.istore_n 3, 1) := by decide +kernel
theorem dX2_allows_15 : decode cX2_allows 15 = .ok (.iload_n 1, 1) := by decide +kernel
theorem dX2_allows_16 : decode cX2_allows 16 = .ok (.iload_n 3, 1) := by decide +kernel
theorem dX2_allows_17 : decode cX2_allows 17 = .ok (.if_icmp .gt 21, 3) := by decide +kernel
theorem dX2_allows_20 : decode cX2_allows 20 = .ok (.aload_n 0, 1) := by decide +kernel
theorem dX2_allows_21 : decode cX2_allows 21 = .ok (.getfield 21, 3) := by decide +kernel
theorem dX2_allows_24 : decode cX2_allows 24 = .ok (.bipush 100, 2) := by decide +kernel
theorem dX2_allows_26 : decode cX2_allows 26 = .ok (.if_icmp .lt 8, 3) := by decide +kernel
theorem dX2_allows_29 : decode cX2_allows 29 = .ok (.iload_n 1, 1) := by decide +kernel
theorem dX2_allows_30 : decode cX2_allows 30 = .ok (.iload_n 2, 1) := by decide +kernel
theorem dX2_allows_31 : decode cX2_allows 31 = .ok (.if_icmp .lt 7, 3) := by decide +kernel
theorem dX2_allows_34 : decode cX2_allows 34 = .ok (.iconst 1, 1) := by decide +kernel
theorem dX2_allows_35 : decode cX2_allows 35 = .ok (.goto 4, 3) := by decide +kernel
theorem dX2_allows_38 : decode cX2_allows 38 = .ok (.iconst 0, 1) := by decide +kernel
theorem dX2_allows_39 : decode cX2_allows 39 = .ok (.ireturn, 1) := by decide +kernel
theorem dX3_init_0 : decode cX3_init 0 = .ok (.aload_n 0, 1) := by decide +kernel
theorem dX3_init_1 : decode cX3_init 1 = .ok (.invokespecial 3, 3) := by decide +kernel
theorem dX3_init_4 : decode cX3_init 4 = .ok (.aload_n 0, 1) := by decide +kernel
theorem dX3_init_5 : decode cX3_init 5 = .ok (.iconst (-1), 1) := by decide +kernel
theorem dX3_init_6 : decode cX3_init 6 = .ok (.putfield 9, 3) := by decide +kernel
theorem dX3_init_9 : decode cX3_init 9 = .ok (.aload_n 0, 1) := by decide +kernel
theorem dX3_init_10 : decode cX3_init 10 = .ok (.iconst 0, 1) := by decide +kernel
theorem dX3_init_11 : decode cX3_init 11 = .ok (.putfield 15, 3) := by decide +kernel
theorem dX3_init_14 : decode cX3_init 14 = .ok (.aload_n 0, 1) := by decide +kernel
theorem dX3_init_15 : decode cX3_init 15 = .ok (.bipush 24, 2) := by decide +kernel
theorem dX3_init_17 : decode cX3_init 17 = .ok (.newarray .int, 2) := by decide +kernel
theorem dX3_init_19 : decode cX3_init 19 = .ok (.putfield 18, 3) := by decide +kernel
theorem dX3_init_22 : decode cX3_init 22 = .ok (.return_, 1) := by decide +kernel
theorem dX3_become_0 : decode cX3_become 0 = .ok (.aload_n 0, 1) := by decide +kernel
theorem dX3_become_1 : decode cX3_become 1 = .ok (.iload_n 1, 1) := by decide +kernel
theorem dX3_become_2 : decode cX3_become 2 = .ok (.putfield 9, 3) := by decide +kernel
theorem dX3_become_5 : decode cX3_become 5 = .ok (.aload_n 0, 1) := by decide +kernel
theorem dX3_become_6 : decode cX3_become 6 = .ok (.iload_n 2, 1) := by decide +kernel
theorem dX3_become_7 : decode cX3_become 7 = .ok (.iconst 0, 1) := by decide +kernel
theorem dX3_become_8 : decode cX3_become 8 = .ok (.bipush 24, 2) := by decide +kernel
theorem dX3_become_10 : decode cX3_become 10 = .ok (.invokestatic 22, 3) := by decide +kernel
theorem dX3_become_13 : decode cX3_become 13 = .ok (.putfield 15, 3) := by decide +kernel
theorem dX3_become_16 : decode cX3_become 16 = .ok (.aload_n 0, 1) := by decide +kernel
theorem dX3_become_17 : decode cX3_become 17 = .ok (.getfield 18, 3) := by decide +kernel
theorem dX3_become_20 : decode cX3_become 20 = .ok (.iconst 0, 1) := by decide +kernel
theorem dX3_become_21 : decode cX3_become 21 = .ok (.invokestatic 26, 3) := by decide +kernel
theorem dX3_become_24 : decode cX3_become 24 = .ok (.return_, 1) := by decide +kernel
theorem dX3_take_0 : decode cX3_take 0 = .ok (.aload_n 0, 1) := by decide +kernel
theorem dX3_take_1 : decode cX3_take 1 = .ok (.aload_n 1, 1) := by decide +kernel
theorem dX3_take_2 : decode cX3_take 2 = .ok (.getfield 9, 3) := by decide +kernel
theorem dX3_take_5 : decode cX3_take 5 = .ok (.putfield 9, 3) := by decide +kernel
theorem dX3_take_8 : decode cX3_take 8 = .ok (.aload_n 0, 1) := by decide +kernel
theorem dX3_take_9 : decode cX3_take 9 = .ok (.aload_n 1, 1) := by decide +kernel
theorem dX3_take_10 : decode cX3_take 10 = .ok (.getfield 15, 3) := by decide +kernel
theorem dX3_take_13 : decode cX3_take 13 = .ok (.putfield 15, 3) := by decide +kernel
theorem dX3_take_16 : decode cX3_take 16 = .ok (.aload_n 1, 1) := by decide +kernel
theorem dX3_take_17 : decode cX3_take 17 = .ok (.getfield 18, 3) := by decide +kernel
theorem dX3_take_20 : decode cX3_take 20 = .ok (.iconst 0, 1) := by decide +kernel
theorem dX3_take_21 : decode cX3_take 21 = .ok (.aload_n 0, 1) := by decide +kernel
theorem dX3_take_22 : decode cX3_take 22 = .ok (.getfield 18, 3) := by decide +kernel
theorem dX3_take_25 : decode cX3_take 25 = .ok (.iconst 0, 1) := by decide +kernel
theorem dX3_take_26 : decode cX3_take 26 = .ok (.bipush 24, 2) := by decide +kernel
theorem dX3_take_28 : decode cX3_take 28 = .ok (.invokestatic 32, 3) := by decide +kernel
theorem dX3_take_31 : decode cX3_take 31 = .ok (.return_, 1) := by decide +kernel
theorem dX3_isNumber_0 : decode cX3_isNumber 0 = .ok (.iload_n 1, 1) := by decide +kernel
theorem dX3_isNumber_1 : decode cX3_isNumber 1 = .ok (.aload_n 0, 1) := by decide +kernel
theorem dX3_isNumber_2 : decode cX3_isNumber 2 = .ok (.getfield 15, 3) := by decide +kernel
theorem dX3_isNumber_5 : decode cX3_isNumber 5 = .ok (.invokestatic 38, 3) := by decide +kernel
theorem dX3_isNumber_8 : decode cX3_isNumber 8 = .ok (.ifCond .eq 18, 3) := by decide +kernel
theorem dX3_isNumber_11 : decode cX3_isNumber 11 = .ok (.aload_n 0, 1) := by decide +kernel
theorem dX3_isNumber_12 : decode cX3_isNumber 12 = .ok (.getfield 18, 3) := by decide +kernel
theorem dX3_isNumber_15 : decode cX3_isNumber 15 = .ok (.iload_n 1, 1) := by decide +kernel
theorem dX3_isNumber_16 : decode cX3_isNumber 16 = .ok (.iaload, 1) := by decide +kernel
theorem dX3_isNumber_17 : decode cX3_isNumber 17 = .ok (.ldc 42, 2) := by decide +kernel
theorem dX3_isNumber_19 : decode cX3_isNumber 19 = .ok (.if_icmp .eq 7, 3) := by decide +kernel
theorem dX3_isNumber_22 : decode cX3_isNumber 22 = .ok (.iconst 1, 1) := by decide +kernel
theorem dX3_isNumber_23 : decode cX3_isNumber 23 = .ok (.goto 4, 3) := by decide +kernel
theorem dX3_isNumber_26 : decode cX3_isNumber 26 = .ok (.iconst 0, 1) := by decide +kernel
theorem dX3_isNumber_27 : decode cX3_isNumber 27 = .ok (.ireturn, 1) := by decide +kernel
theorem dX3_hasRun_0 : decode cX3_hasRun 0 = .ok (.iload_n 1, 1) := by decide +kernel
theorem dX3_hasRun_1 : decode cX3_hasRun 1 = .ok (.ifCond .lt 29, 3) := by decide +kernel
theorem dX3_hasRun_4 : decode cX3_hasRun 4 = .ok (.iload_n 2, 1) := by decide +kernel
theorem dX3_hasRun_5 : decode cX3_hasRun 5 = .ok (.ifCond .lt 25, 3) := by decide +kernel
theorem dX3_hasRun_8 : decode cX3_hasRun 8 = .ok (.iload_n 1, 1) := by decide +kernel
theorem dX3_hasRun_9 : decode cX3_hasRun 9 = .ok (.aload_n 0, 1) := by decide +kernel
theorem dX3_hasRun_10 : decode cX3_hasRun 10 = .ok (.getfield 15, 3) := by decide +kernel
theorem dX3_hasRun_13 : decode cX3_hasRun 13 = .ok (.if_icmp .gt 17, 3) := by decide +kernel
theorem dX3_hasRun_16 : decode cX3_hasRun 16 = .ok (.iload_n 2, 1) := by decide +kernel
theorem dX3_hasRun_17 : decode cX3_hasRun 17 = .ok (.aload_n 0, 1) := by decide +kernel
theorem dX3_hasRun_18 : decode cX3_hasRun 18 = .ok (.getfield 15, 3) := by decide +kernel
theorem dX3_hasRun_21 : decode cX3_hasRun 21 = .ok (.iload_n 1, 1) := by decide +kernel
theorem dX3_hasRun_22 : decode cX3_hasRun 22 = .ok (.isub, 1) := by decide +kernel
theorem dX3_hasRun_23 : decode cX3_hasRun 23 = .ok (.if_icmp .gt 7, 3) := by decide +kernel
theorem dX3_hasRun_26 : decode cX3_hasRun 26 = .ok (.iconst 1, 1) := by decide +kernel
theorem dX3_hasRun_27 : decode cX3_hasRun 27 = .ok (.goto 4, 3) := by decide +kernel
theorem dX3_hasRun_30 : decode cX3_hasRun 30 = .ok (.iconst 0, 1) := by decide +kernel
theorem dX3_hasRun_31 : decode cX3_hasRun 31 = .ok (.ireturn, 1) := by decide +kernel
theorem dX4_init_0 : decode cX4_init 0 = .ok (.aload_n 0, 1) := by decide +kernel
theorem dX4_init_1 : decode cX4_init 1 = .ok (.invokespecial 3, 3) := by decide +kernel
theorem dX4_init_4 : decode cX4_init 4 = .ok (.aload_n 0, 1) := by decide +kernel
theorem dX4_init_5 : decode cX4_init 5 = .ok (.iconst 0, 1) := by decide +kernel
theorem dX4_init_6 : decode cX4_init 6 = .ok (.putfield 9, 3) := by decide +kernel
theorem dX4_init_9 : decode cX4_init 9 = .ok (.aload_n 0, 1) := by decide +kernel
theorem dX4_init_10 : decode cX4_init 10 = .ok (.new 15, 3) := by decide +kernel
theorem dX4_init_13 : decode cX4_init 13 = .ok (.dup, 1) := by decide +kernel
theorem dX4_init_14 : decode cX4_init 14 = .ok (.invokespecial 17, 3) := by decide +kernel
theorem dX4_init_17 : decode cX4_init 17 = .ok (.putfield 18, 3) := by decide +kernel
theorem dX4_init_20 : decode cX4_init 20 = .ok (.aload_n 0, 1) := by decide +kernel
theorem dX4_init_21 : decode cX4_init 21 = .ok (.new 22, 3) := by decide +kernel
theorem dX4_init_24 : decode cX4_init 24 = .ok (.dup, 1) := by decide +kernel
theorem dX4_init_25 : decode cX4_init 25 = .ok (.invokespecial 24, 3) := by decide +kernel
theorem dX4_init_28 : decode cX4_init 28 = .ok (.putfield 25, 3) := by decide +kernel
theorem dX4_init_31 : decode cX4_init 31 = .ok (.aload_n 0, 1) := by decide +kernel
theorem dX4_init_32 : decode cX4_init 32 = .ok (.iconst 0, 1) := by decide +kernel
theorem dX4_init_33 : decode cX4_init 33 = .ok (.putfield 29, 3) := by decide +kernel
theorem dX4_init_36 : decode cX4_init 36 = .ok (.return_, 1) := by decide +kernel
theorem dX5_init_0 : decode cX5_init 0 = .ok (.aload_n 0, 1) := by decide +kernel
theorem dX5_init_1 : decode cX5_init 1 = .ok (.invokespecial 1, 3) := by decide +kernel
theorem dX5_init_4 : decode cX5_init 4 = .ok (.aload_n 0, 1) := by decide +kernel
theorem dX5_init_5 : decode cX5_init 5 = .ok (.iload_n 1, 1) := by decide +kernel
theorem dX5_init_6 : decode cX5_init 6 = .ok (.putfield 7, 3) := by decide +kernel
theorem dX5_init_9 : decode cX5_init 9 = .ok (.aload_n 0, 1) := by decide +kernel
theorem dX5_init_10 : decode cX5_init 10 = .ok (.iload_n 2, 1) := by decide +kernel
theorem dX5_init_11 : decode cX5_init 11 = .ok (.putfield 13, 3) := by decide +kernel
theorem dX5_init_14 : decode cX5_init 14 = .ok (.aload_n 0, 1) := by decide +kernel
theorem dX5_init_15 : decode cX5_init 15 = .ok (.aload_n 3, 1) := by decide +kernel
theorem dX5_init_16 : decode cX5_init 16 = .ok (.putfield 16, 3) := by decide +kernel
theorem dX5_init_19 : decode cX5_init 19 = .ok (.aload_n 0, 1) := by decide +kernel
theorem dX5_init_20 : decode cX5_init 20 = .ok (.aload_n 3, 1) := by decide +kernel
theorem dX5_init_21 : decode cX5_init 21 = .ok (.arraylength, 1) := by decide +kernel
theorem dX5_init_22 : decode cX5_init 22 = .ok (.iconst 1, 1) := by decide +kernel
theorem dX5_init_23 : decode cX5_init 23 = .ok (.iadd, 1) := by decide +kernel
theorem dX5_init_24 : decode cX5_init 24 = .ok (.newarray .int, 2) := by decide +kernel
theorem dX5_init_26 : decode cX5_init 26 = .ok (.putfield 20, 3) := by decide +kernel
theorem dX5_init_29 : decode cX5_init 29 = .ok (.return_, 1) := by decide +kernel
theorem dX5_value_0 : decode cX5_value 0 = .ok (.iconst 0, 1) := by decide +kernel
theorem dX5_value_1 : decode cX5_value 1 = .ok (.istore 4, 2) := by decide +kernel
theorem dX5_value_3 : decode cX5_value 3 = .ok (.iconst 0, 1) := by decide +kernel
theorem dX5_value_4 : decode cX5_value 4 = .ok (.istore 5, 2) := by decide +kernel
theorem dX5_value_6 : decode cX5_value 6 = .ok (.iload 5, 2) := by decide +kernel
theorem dX5_value_8 : decode cX5_value 8 = .ok (.aload_n 0, 1) := by decide +kernel
theorem dX5_value_9 : decode cX5_value 9 = .ok (.getfield 16, 3) := by decide +kernel
theorem dX5_value_12 : decode cX5_value 12 = .ok (.arraylength, 1) := by decide +kernel
theorem dX5_value_13 : decode cX5_value 13 = .ok (.if_icmp .ge 172, 3) := by decide +kernel
theorem dX5_value_16 : decode cX5_value 16 = .ok (.iload 4, 2) := by decide +kernel
theorem dX5_value_18 : decode cX5_value 18 = .ok (.aload_n 0, 1) := by decide +kernel
theorem dX5_value_19 : decode cX5_value 19 = .ok (.getfield 20, 3) := by decide +kernel
theorem dX5_value_22 : decode cX5_value 22 = .ok (.arraylength, 1) := by decide +kernel
theorem dX5_value_23 : decode cX5_value 23 = .ok (.if_icmp .ge 162, 3) := by decide +kernel
theorem dX5_value_26 : decode cX5_value 26 = .ok (.aload_n 0, 1) := by decide +kernel
theorem dX5_value_27 : decode cX5_value 27 = .ok (.getfield 16, 3) := by decide +kernel
theorem dX5_value_30 : decode cX5_value 30 = .ok (.iload 5, 2) := by decide +kernel
theorem dX5_value_32 : decode cX5_value 32 = .ok (.iaload, 1) := by decide +kernel
theorem dX5_value_33 : decode cX5_value 33 = .ok (.istore 6, 2) := by decide +kernel
theorem dX5_value_35 : decode cX5_value 35 = .ok (.iload 6, 2) := by decide +kernel
theorem dX5_value_37 : decode cX5_value 37 = .ok (.ifCond .lt 18, 3) := by decide +kernel
theorem dX5_value_40 : decode cX5_value 40 = .ok (.aload_n 0, 1) := by decide +kernel
theorem dX5_value_41 : decode cX5_value 41 = .ok (.getfield 20, 3) := by decide +kernel
theorem dX5_value_44 : decode cX5_value 44 = .ok (.iload 4, 2) := by decide +kernel
theorem dX5_value_46 : decode cX5_value 46 = .ok (.iload 6, 2) := by decide +kernel
theorem dX5_value_48 : decode cX5_value 48 = .ok (.iastore, 1) := by decide +kernel
theorem dX5_value_49 : decode cX5_value 49 = .ok (.iinc 4 1, 3) := by decide +kernel
theorem dX5_value_52 : decode cX5_value 52 = .ok (.goto 127, 3) := by decide +kernel
theorem dX5_value_55 : decode cX5_value 55 = .ok (.iload 6, 2) := by decide +kernel
theorem dX5_value_57 : decode cX5_value 57 = .ok (.bipush (-3), 2) := by decide +kernel
theorem dX5_value_59 : decode cX5_value 59 = .ok (.if_icmp .lt 38, 3) := by decide +kernel
theorem dX5_value_62 : decode cX5_value 62 = .ok (.aload_n 0, 1) := by decide +kernel
theorem dX5_value_63 : decode cX5_value 63 = .ok (.getfield 20, 3) := by decide +kernel
theorem dX5_value_66 : decode cX5_value 66 = .ok (.iload 4, 2) := by decide +kernel
theorem dX5_value_68 : decode cX5_value 68 = .ok (.iload 6, 2) := by decide +kernel
theorem dX5_value_70 : decode cX5_value 70 = .ok (.iconst (-1), 1) := by decide +kernel
theorem dX5_value_71 : decode cX5_value 71 = .ok (.if_icmp .ne 7, 3) := by decide +kernel
theorem dX5_value_74 : decode cX5_value 74 = .ok (.iload_n 1, 1) := by decide +kernel
theorem dX5_value_75 : decode cX5_value 75 = .ok (.goto 15, 3) := by decide +kernel
theorem dX5_value_78 : decode cX5_value 78 = .ok (.iload 6, 2) := by decide +kernel
theorem dX5_value_80 : decode cX5_value 80 = .ok (.bipush (-2), 2) := by decide +kernel
theorem dX5_value_82 : decode cX5_value 82 = .ok (.if_icmp .ne 7, 3) := by decide +kernel
theorem dX5_value_85 : decode cX5_value 85 = .ok (.iload_n 2, 1) := by decide +kernel
theorem dX5_value_86 : decode cX5_value 86 = .ok (.goto 4, 3) := by decide +kernel
theorem dX5_value_89 : decode cX5_value 89 = .ok (.iload_n 3, 1) := by decide +kernel
theorem dX5_value_90 : decode cX5_value 90 = .ok (.iastore, 1) := by decide +kernel
theorem dX5_value_91 : decode cX5_value 91 = .ok (.iinc 4 1, 3) := by decide +kernel
theorem dX5_value_94 : decode cX5_value 94 = .ok (.goto 85, 3) := by decide +kernel
theorem dX5_value_97 : decode cX5_value 97 = .ok (.iload 6, 2) := by decide +kernel
theorem dX5_value_99 : decode cX5_value 99 = .ok (.bipush (-33), 2) := by decide +kernel
theorem dX5_value_101 : decode cX5_value 101 = .ok (.if_icmp .ne 38, 3) := by decide +kernel
theorem dX5_value_104 : decode cX5_value 104 = .ok (.iload 4, 2) := by decide +kernel
theorem dX5_value_106 : decode cX5_value 106 = .ok (.iconst 1, 1) := by decide +kernel
theorem dX5_value_107 : decode cX5_value 107 = .ok (.if_icmp .lt 32, 3) := by decide +kernel
theorem dX5_value_110 : decode cX5_value 110 = .ok (.aload_n 0, 1) := by decide +kernel
theorem dX5_value_111 : decode cX5_value 111 = .ok (.getfield 20, 3) := by decide +kernel
theorem dX5_value_114 : decode cX5_value 114 = .ok (.iload 4, 2) := by decide +kernel
theorem dX5_value_116 : decode cX5_value 116 = .ok (.iconst 1, 1) := by decide +kernel
theorem dX5_value_117 : decode cX5_value 117 = .ok (.isub, 1) := by decide +kernel
theorem dX5_value_118 : decode cX5_value 118 = .ok (.aload_n 0, 1) := by decide +kernel
theorem dX5_value_119 : decode cX5_value 119 = .ok (.getfield 20, 3) := by decide +kernel
theorem dX5_value_122 : decode cX5_value 122 = .ok (.iload 4, 2) := by decide +kernel
theorem dX5_value_124 : decode cX5_value 124 = .ok (.iconst 1, 1) := by decide +kernel
theorem dX5_value_125 : decode cX5_value 125 = .ok (.isub, 1) := by decide +kernel
theorem dX5_value_126 : decode cX5_value 126 = .ok (.iaload, 1) := by decide +kernel
theorem dX5_value_127 : decode cX5_value 127 = .ok (.ifCond .ne 7, 3) := by decide +kernel
theorem dX5_value_130 : decode cX5_value 130 = .ok (.iconst 1, 1) := by decide +kernel
theorem dX5_value_131 : decode cX5_value 131 = .ok (.goto 4, 3) := by decide +kernel
theorem dX5_value_134 : decode cX5_value 134 = .ok (.iconst 0, 1) := by decide +kernel
theorem dX5_value_135 : decode cX5_value 135 = .ok (.iastore, 1) := by decide +kernel
theorem dX5_value_136 : decode cX5_value 136 = .ok (.goto 43, 3) := by decide +kernel
theorem dX5_value_139 : decode cX5_value 139 = .ok (.iload 4, 2) := by decide +kernel
theorem dX5_value_141 : decode cX5_value 141 = .ok (.iconst 2, 1) := by decide +kernel
theorem dX5_value_142 : decode cX5_value 142 = .ok (.if_icmp .lt 37, 3) := by decide +kernel
theorem dX5_value_145 : decode cX5_value 145 = .ok (.iinc 4 (-1), 3) := by decide +kernel
theorem dX5_value_148 : decode cX5_value 148 = .ok (.aload_n 0, 1) := by decide +kernel
theorem dX5_value_149 : decode cX5_value 149 = .ok (.getfield 20, 3) := by decide +kernel
theorem dX5_value_152 : decode cX5_value 152 = .ok (.iload 4, 2) := by decide +kernel
theorem dX5_value_154 : decode cX5_value 154 = .ok (.iconst 1, 1) := by decide +kernel
theorem dX5_value_155 : decode cX5_value 155 = .ok (.isub, 1) := by decide +kernel
theorem dX5_value_156 : decode cX5_value 156 = .ok (.iload 6, 2) := by decide +kernel
theorem dX5_value_158 : decode cX5_value 158 = .ok (.ineg, 1) := by decide +kernel
theorem dX5_value_159 : decode cX5_value 159 = .ok (.aload_n 0, 1) := by decide +kernel
theorem dX5_value_160 : decode cX5_value 160 = .ok (.getfield 20, 3) := by decide +kernel
theorem dX5_value_163 : decode cX5_value 163 = .ok (.iload 4, 2) := by decide +kernel
theorem dX5_value_165 : decode cX5_value 165 = .ok (.iconst 1, 1) := by decide +kernel
theorem dX5_value_166 : decode cX5_value 166 = .ok (.isub, 1) := by decide +kernel
theorem dX5_value_167 : decode cX5_value 167 = .ok (.iaload, 1) := by decide +kernel
theorem dX5_value_168 : decode cX5_value 168 = .ok (.aload_n 0, 1) := by decide +kernel
theorem dX5_value_169 : decode cX5_value 169 = .ok (.getfield 20, 3) := by decide +kernel
theorem dX5_value_172 : decode cX5_value 172 = .ok (.iload 4, 2) := by decide +kernel
theorem dX5_value_174 : decode cX5_value 174 = .ok (.iaload, 1) := by decide +kernel
theorem dX5_value_175 : decode cX5_value 175 = .ok (.invokestatic 23, 3) := by decide +kernel
theorem dX5_value_178 : decode cX5_value 178 = .ok (.iastore, 1) := by decide +kernel
theorem dX5_value_179 : decode cX5_value 179 = .ok (.iinc 5 1, 3) := by decide +kernel
theorem dX5_value_182 : decode cX5_value 182 = .ok (.goto (-176), 3) := by decide +kernel
theorem dX5_value_185 : decode cX5_value 185 = .ok (.aload_n 0, 1) := by decide +kernel
theorem dX5_value_186 : decode cX5_value 186 = .ok (.getfield 20, 3) := by decide +kernel
theorem dX5_value_189 : decode cX5_value 189 = .ok (.iconst 0, 1) := by decide +kernel
theorem dX5_value_190 : decode cX5_value 190 = .ok (.iaload, 1) := by decide +kernel
theorem dX5_value_191 : decode cX5_value 191 = .ok (.ireturn, 1) := by decide +kernel
theorem dX5_joined_0 : decode cX5_joined 0 = .ok (.iload_n 0, 1) := by decide +kernel
theorem dX5_joined_1 : decode cX5_joined 1 = .ok (.lookupswitch 148 #[(38, 89), (42, 144), (43, 136), (45, 140), (60, 103), (61, 114), (62, 125), (124, 75)], 75) := by decide +kernel
theorem dX5_joined_76 : decode cX5_joined 76 = .ok (.iload_n 1, 1) := by decide +kernel
theorem dX5_joined_77 : decode cX5_joined 77 = .ok (.ifCond .ne 7, 3) := by decide +kernel
theorem dX5_joined_80 : decode cX5_joined 80 = .ok (.iload_n 2, 1) := by decide +kernel
theorem dX5_joined_81 : decode cX5_joined 81 = .ok (.ifCond .eq 7, 3) := by decide +kernel
theorem dX5_joined_84 : decode cX5_joined 84 = .ok (.iconst 1, 1) := by decide +kernel
theorem dX5_joined_85 : decode cX5_joined 85 = .ok (.goto 4, 3) := by decide +kernel
theorem dX5_joined_88 : decode cX5_joined 88 = .ok (.iconst 0, 1) := by decide +kernel
theorem dX5_joined_89 : decode cX5_joined 89 = .ok (.ireturn, 1) := by decide +kernel
theorem dX5_joined_90 : decode cX5_joined 90 = .ok (.iload_n 1, 1) := by decide +kernel
theorem dX5_joined_91 : decode cX5_joined 91 = .ok (.ifCond .eq 11, 3) := by decide +kernel
theorem dX5_joined_94 : decode cX5_joined 94 = .ok (.iload_n 2, 1) := by decide +kernel
theorem dX5_joined_95 : decode cX5_joined 95 = .ok (.ifCond .eq 7, 3) := by decide +kernel
theorem dX5_joined_98 : decode cX5_joined 98 = .ok (.iconst 1, 1) := by decide +kernel
theorem dX5_joined_99 : decode cX5_joined 99 = .ok (.goto 4, 3) := by decide +kernel
theorem dX5_joined_102 : decode cX5_joined 102 = .ok (.iconst 0, 1) := by decide +kernel
theorem dX5_joined_103 : decode cX5_joined 103 = .ok (.ireturn, 1) := by decide +kernel
theorem dX5_joined_104 : decode cX5_joined 104 = .ok (.iload_n 1, 1) := by decide +kernel
theorem dX5_joined_105 : decode cX5_joined 105 = .ok (.iload_n 2, 1) := by decide +kernel
theorem dX5_joined_106 : decode cX5_joined 106 = .ok (.if_icmp .ge 7, 3) := by decide +kernel
theorem dX5_joined_109 : decode cX5_joined 109 = .ok (.iconst 1, 1) := by decide +kernel
theorem dX5_joined_110 : decode cX5_joined 110 = .ok (.goto 4, 3) := by decide +kernel
theorem dX5_joined_113 : decode cX5_joined 113 = .ok (.iconst 0, 1) := by decide +kernel
theorem dX5_joined_114 : decode cX5_joined 114 = .ok (.ireturn, 1) := by decide +kernel
theorem dX5_joined_115 : decode cX5_joined 115 = .ok (.iload_n 1, 1) := by decide +kernel
theorem dX5_joined_116 : decode cX5_joined 116 = .ok (.iload_n 2, 1) := by decide +kernel
theorem dX5_joined_117 : decode cX5_joined 117 = .ok (.if_icmp .ne 7, 3) := by decide +kernel
theorem dX5_joined_120 : decode cX5_joined 120 = .ok (.iconst 1, 1) := by decide +kernel
theorem dX5_joined_121 : decode cX5_joined 121 = .ok (.goto 4, 3) := by decide +kernel
theorem dX5_joined_124 : decode cX5_joined 124 = .ok (.iconst 0, 1) := by decide +kernel
theorem dX5_joined_125 : decode cX5_joined 125 = .ok (.ireturn, 1) := by decide +kernel
theorem dX5_joined_126 : decode cX5_joined 126 = .ok (.iload_n 1, 1) := by decide +kernel
theorem dX5_joined_127 : decode cX5_joined 127 = .ok (.iload_n 2, 1) := by decide +kernel
theorem dX5_joined_128 : decode cX5_joined 128 = .ok (.if_icmp .le 7, 3) := by decide +kernel
theorem dX5_joined_131 : decode cX5_joined 131 = .ok (.iconst 1, 1) := by decide +kernel
theorem dX5_joined_132 : decode cX5_joined 132 = .ok (.goto 4, 3) := by decide +kernel
theorem dX5_joined_135 : decode cX5_joined 135 = .ok (.iconst 0, 1) := by decide +kernel
theorem dX5_joined_136 : decode cX5_joined 136 = .ok (.ireturn, 1) := by decide +kernel
theorem dX5_joined_137 : decode cX5_joined 137 = .ok (.iload_n 1, 1) := by decide +kernel
theorem dX5_joined_138 : decode cX5_joined 138 = .ok (.iload_n 2, 1) := by decide +kernel
theorem dX5_joined_139 : decode cX5_joined 139 = .ok (.iadd, 1) := by decide +kernel
theorem dX5_joined_140 : decode cX5_joined 140 = .ok (.ireturn, 1) := by decide +kernel
theorem dX5_joined_141 : decode cX5_joined 141 = .ok (.iload_n 1, 1) := by decide +kernel
theorem dX5_joined_142 : decode cX5_joined 142 = .ok (.iload_n 2, 1) := by decide +kernel
theorem dX5_joined_143 : decode cX5_joined 143 = .ok (.isub, 1) := by decide +kernel
theorem dX5_joined_144 : decode cX5_joined 144 = .ok (.ireturn, 1) := by decide +kernel
theorem dX5_joined_145 : decode cX5_joined 145 = .ok (.iload_n 1, 1) := by decide +kernel
theorem dX5_joined_146 : decode cX5_joined 146 = .ok (.iload_n 2, 1) := by decide +kernel
theorem dX5_joined_147 : decode cX5_joined 147 = .ok (.imul, 1) := by decide +kernel
theorem dX5_joined_148 : decode cX5_joined 148 = .ok (.ireturn, 1) := by decide +kernel
theorem dX5_joined_149 : decode cX5_joined 149 = .ok (.iload_n 2, 1) := by decide +kernel
theorem dX5_joined_150 : decode cX5_joined 150 = .ok (.ifCond .ne 7, 3) := by decide +kernel
theorem dX5_joined_153 : decode cX5_joined 153 = .ok (.iconst 0, 1) := by decide +kernel
theorem dX5_joined_154 : decode cX5_joined 154 = .ok (.goto 6, 3) := by decide +kernel
theorem dX5_joined_157 : decode cX5_joined 157 = .ok (.iload_n 1, 1) := by decide +kernel
theorem dX5_joined_158 : decode cX5_joined 158 = .ok (.iload_n 2, 1) := by decide +kernel
theorem dX5_joined_159 : decode cX5_joined 159 = .ok (.idiv, 1) := by decide +kernel
theorem dX5_joined_160 : decode cX5_joined 160 = .ok (.ireturn, 1) := by decide +kernel
theorem dX6_init_0 : decode cX6_init 0 = .ok (.aload_n 0, 1) := by decide +kernel
theorem dX6_init_1 : decode cX6_init 1 = .ok (.invokespecial 3, 3) := by decide +kernel
theorem dX6_init_4 : decode cX6_init 4 = .ok (.aload_n 0, 1) := by decide +kernel
theorem dX6_init_5 : decode cX6_init 5 = .ok (.iconst 0, 1) := by decide +kernel
theorem dX6_init_6 : decode cX6_init 6 = .ok (.newarray .byte, 2) := by decide +kernel
theorem dX6_init_8 : decode cX6_init 8 = .ok (.putfield 9, 3) := by decide +kernel
theorem dX6_init_11 : decode cX6_init 11 = .ok (.aload_n 0, 1) := by decide +kernel
theorem dX6_init_12 : decode cX6_init 12 = .ok (.iconst 0, 1) := by decide +kernel
theorem dX6_init_13 : decode cX6_init 13 = .ok (.putfield 15, 3) := by decide +kernel
theorem dX6_init_16 : decode cX6_init 16 = .ok (.aload_n 0, 1) := by decide +kernel
theorem dX6_init_17 : decode cX6_init 17 = .ok (.iconst 0, 1) := by decide +kernel
theorem dX6_init_18 : decode cX6_init 18 = .ok (.putfield 19, 3) := by decide +kernel
theorem dX6_init_21 : decode cX6_init 21 = .ok (.aload_n 0, 1) := by decide +kernel
theorem dX6_init_22 : decode cX6_init 22 = .ok (.iconst 0, 1) := by decide +kernel
theorem dX6_init_23 : decode cX6_init 23 = .ok (.putfield 22, 3) := by decide +kernel
theorem dX6_init_26 : decode cX6_init 26 = .ok (.aload_n 0, 1) := by decide +kernel
theorem dX6_init_27 : decode cX6_init 27 = .ok (.iconst 0, 1) := by decide +kernel
theorem dX6_init_28 : decode cX6_init 28 = .ok (.putfield 25, 3) := by decide +kernel
theorem dX6_init_31 : decode cX6_init 31 = .ok (.aload_n 0, 1) := by decide +kernel
theorem dX6_init_32 : decode cX6_init 32 = .ok (.iconst 0, 1) := by decide +kernel
theorem dX6_init_33 : decode cX6_init 33 = .ok (.putfield 28, 3) := by decide +kernel
theorem dX6_init_36 : decode cX6_init 36 = .ok (.aload_n 0, 1) := by decide +kernel
theorem dX6_init_37 : decode cX6_init 37 = .ok (.iconst 0, 1) := by decide +kernel
theorem dX6_init_38 : decode cX6_init 38 = .ok (.putfield 31, 3) := by decide +kernel
theorem dX6_init_41 : decode cX6_init 41 = .ok (.aload_n 0, 1) := by decide +kernel
theorem dX6_init_42 : decode cX6_init 42 = .ok (.bipush 96, 2) := by decide +kernel
theorem dX6_init_44 : decode cX6_init 44 = .ok (.newarray .int, 2) := by decide +kernel
theorem dX6_init_46 : decode cX6_init 46 = .ok (.putfield 34, 3) := by decide +kernel
theorem dX6_init_49 : decode cX6_init 49 = .ok (.aload_n 0, 1) := by decide +kernel
theorem dX6_init_50 : decode cX6_init 50 = .ok (.iconst 0, 1) := by decide +kernel
theorem dX6_init_51 : decode cX6_init 51 = .ok (.putfield 38, 3) := by decide +kernel
theorem dX6_init_54 : decode cX6_init 54 = .ok (.return_, 1) := by decide +kernel
theorem dX6_readText_0 : decode cX6_readText 0 = .ok (.aload_n 0, 1) := by decide +kernel
theorem dX6_readText_1 : decode cX6_readText 1 = .ok (.aload_n 1, 1) := by decide +kernel
theorem dX6_readText_2 : decode cX6_readText 2 = .ok (.putfield 9, 3) := by decide +kernel
theorem dX6_readText_5 : decode cX6_readText 5 = .ok (.aload_n 0, 1) := by decide +kernel
theorem dX6_readText_6 : decode cX6_readText 6 = .ok (.iload_n 2, 1) := by decide +kernel
theorem dX6_readText_7 : decode cX6_readText 7 = .ok (.aload_n 1, 1) := by decide +kernel
theorem dX6_readText_8 : decode cX6_readText 8 = .ok (.arraylength, 1) := by decide +kernel
theorem dX6_readText_9 : decode cX6_readText 9 = .ok (.invokestatic 41, 3) := by decide +kernel
theorem dX6_readText_12 : decode cX6_readText 12 = .ok (.putfield 15, 3) := by decide +kernel
theorem dX6_readText_15 : decode cX6_readText 15 = .ok (.aload_n 0, 1) := by decide +kernel
theorem dX6_readText_16 : decode cX6_readText 16 = .ok (.iconst 0, 1) := by decide +kernel
theorem dX6_readText_17 : decode cX6_readText 17 = .ok (.putfield 19, 3) := by decide +kernel
theorem dX6_readText_20 : decode cX6_readText 20 = .ok (.aload_n 0, 1) := by decide +kernel
theorem dX6_readText_21 : decode cX6_readText 21 = .ok (.iconst 0, 1) := by decide +kernel
theorem dX6_readText_22 : decode cX6_readText 22 = .ok (.putfield 25, 3) := by decide +kernel
theorem dX6_readText_25 : decode cX6_readText 25 = .ok (.aload_n 0, 1) := by decide +kernel
theorem dX6_readText_26 : decode cX6_readText 26 = .ok (.iconst 0, 1) := by decide +kernel
theorem dX6_readText_27 : decode cX6_readText 27 = .ok (.putfield 31, 3) := by decide +kernel
theorem dX6_readText_30 : decode cX6_readText 30 = .ok (.aload_n 0, 1) := by decide +kernel
theorem dX6_readText_31 : decode cX6_readText 31 = .ok (.iconst 0, 1) := by decide +kernel
theorem dX6_readText_32 : decode cX6_readText 32 = .ok (.putfield 38, 3) := by decide +kernel
theorem dX6_readText_35 : decode cX6_readText 35 = .ok (.aload_n 0, 1) := by decide +kernel
theorem dX6_readText_36 : decode cX6_readText 36 = .ok (.invokevirtual 47, 3) := by decide +kernel
theorem dX6_readText_39 : decode cX6_readText 39 = .ok (.aload_n 0, 1) := by decide +kernel
theorem dX6_readText_40 : decode cX6_readText 40 = .ok (.invokevirtual 50, 3) := by decide +kernel
theorem dX6_readText_43 : decode cX6_readText 43 = .ok (.ifCond .ne 5, 3) := by decide +kernel
theorem dX6_readText_46 : decode cX6_readText 46 = .ok (.iconst 0, 1) := by decide +kernel
theorem dX6_readText_47 : decode cX6_readText 47 = .ok (.ireturn, 1) := by decide +kernel
theorem dX6_readText_48 : decode cX6_readText 48 = .ok (.aload_n 0, 1) := by decide +kernel
theorem dX6_readText_49 : decode cX6_readText 49 = .ok (.iconst 0, 1) := by decide +kernel
theorem dX6_readText_50 : decode cX6_readText 50 = .ok (.iconst 0, 1) := by decide +kernel
theorem dX6_readText_51 : decode cX6_readText 51 = .ok (.invokevirtual 54, 3) := by decide +kernel
theorem dX6_readText_54 : decode cX6_readText 54 = .ok (.ifCond .eq 14, 3) := by decide +kernel
theorem dX6_readText_57 : decode cX6_readText 57 = .ok (.aload_n 0, 1) := by decide +kernel
theorem dX6_readText_58 : decode cX6_readText 58 = .ok (.getfield 19, 3) := by decide +kernel
theorem dX6_readText_61 : decode cX6_readText 61 = .ok (.ifCond .ne 7, 3) := by decide +kernel
theorem dX6_readText_64 : decode cX6_readText 64 = .ok (.iconst 1, 1) := by decide +kernel
theorem dX6_readText_65 : decode cX6_readText 65 = .ok (.goto 4, 3) := by decide +kernel
theorem dX6_readText_68 : decode cX6_readText 68 = .ok (.iconst 0, 1) := by decide +kernel
theorem dX6_readText_69 : decode cX6_readText 69 = .ok (.ireturn, 1) := by decide +kernel
theorem dX6_newText_0 : decode cX6_newText 0 = .ok (.new 58, 3) := by decide +kernel
theorem dX6_newText_3 : decode cX6_newText 3 = .ok (.dup, 1) := by decide +kernel
theorem dX6_newText_4 : decode cX6_newText 4 = .ok (.aload_n 0, 1) := by decide +kernel
theorem dX6_newText_5 : decode cX6_newText 5 = .ok (.getfield 28, 3) := by decide +kernel
theorem dX6_newText_8 : decode cX6_newText 8 = .ok (.aload_n 0, 1) := by decide +kernel
theorem dX6_newText_9 : decode cX6_newText 9 = .ok (.getfield 31, 3) := by decide +kernel
theorem dX6_newText_12 : decode cX6_newText 12 = .ok (.aload_n 0, 1) := by decide +kernel
theorem dX6_newText_13 : decode cX6_newText 13 = .ok (.getfield 34, 3) := by decide +kernel
theorem dX6_newText_16 : decode cX6_newText 16 = .ok (.aload_n 0, 1) := by decide +kernel
theorem dX6_newText_17 : decode cX6_newText 17 = .ok (.getfield 38, 3) := by decide +kernel
theorem dX6_newText_20 : decode cX6_newText 20 = .ok (.invokestatic 60, 3) := by decide +kernel
theorem dX6_newText_23 : decode cX6_newText 23 = .ok (.invokespecial 66, 3) := by decide +kernel
theorem dX6_newText_26 : decode cX6_newText 26 = .ok (.areturn, 1) := by decide +kernel
theorem dX6_advance_0 : decode cX6_advance 0 = .ok (.aload_n 0, 1) := by decide +kernel
theorem dX6_advance_1 : decode cX6_advance 1 = .ok (.getfield 19, 3) := by decide +kernel
theorem dX6_advance_4 : decode cX6_advance 4 = .ok (.iconst 1, 1) := by decide +kernel
theorem dX6_advance_5 : decode cX6_advance 5 = .ok (.if_icmp .eq 11, 3) := by decide +kernel
theorem dX6_advance_8 : decode cX6_advance 8 = .ok (.aload_n 0, 1) := by decide +kernel
theorem dX6_advance_9 : decode cX6_advance 9 = .ok (.getfield 19, 3) := by decide +kernel
theorem dX6_advance_12 : decode cX6_advance 12 = .ok (.iconst 2, 1) := by decide +kernel
theorem dX6_advance_13 : decode cX6_advance 13 = .ok (.if_icmp .ne 7, 3) := by decide +kernel
theorem dX6_advance_16 : decode cX6_advance 16 = .ok (.iconst 1, 1) := by decide +kernel
theorem dX6_advance_17 : decode cX6_advance 17 = .ok (.goto 4, 3) := by decide +kernel
theorem dX6_advance_20 : decode cX6_advance 20 = .ok (.iconst 0, 1) := by decide +kernel
theorem dX6_advance_21 : decode cX6_advance 21 = .ok (.istore_n 1, 1) := by decide +kernel
theorem dX6_advance_22 : decode cX6_advance 22 = .ok (.aload_n 0, 1) := by decide +kernel
theorem dX6_advance_23 : decode cX6_advance 23 = .ok (.aload_n 0, 1) := by decide +kernel
theorem dX6_advance_24 : decode cX6_advance 24 = .ok (.getfield 25, 3) := by decide +kernel
theorem dX6_advance_27 : decode cX6_advance 27 = .ok (.putfield 22, 3) := by decide +kernel
theorem dX6_advance_30 : decode cX6_advance 30 = .ok (.aload_n 0, 1) := by decide +kernel
theorem dX6_advance_31 : decode cX6_advance 31 = .ok (.getfield 22, 3) := by decide +kernel
theorem dX6_advance_34 : decode cX6_advance 34 = .ok (.aload_n 0, 1) := by decide +kernel
theorem dX6_advance_35 : decode cX6_advance 35 = .ok (.getfield 15, 3) := by decide +kernel
theorem dX6_advance_38 : decode cX6_advance 38 = .ok (.if_icmp .ge 30, 3) := by decide +kernel
theorem dX6_advance_41 : decode cX6_advance 41 = .ok (.aload_n 0, 1) := by decide +kernel
theorem dX6_advance_42 : decode cX6_advance 42 = .ok (.getfield 9, 3) := by decide +kernel
theorem dX6_advance_45 : decode cX6_advance 45 = .ok (.aload_n 0, 1) := by decide +kernel
theorem dX6_advance_46 : decode cX6_advance 46 = .ok (.getfield 22, 3) := by decide +kernel
theorem dX6_advance_49 : decode cX6_advance 49 = .ok (.baload, 1) := by decide +kernel
theorem dX6_advance_50 : decode cX6_advance 50 = .ok (.bipush 32, 2) := by decide +kernel
theorem dX6_advance_52 : decode cX6_advance 52 = .ok (.if_icmp .ne 16, 3) := by decide +kernel
theorem dX6_advance_55 : decode cX6_advance 55 = .ok (.aload_n 0, 1) := by decide +kernel
theorem dX6_advance_56 : decode cX6_advance 56 = .ok (.dup, 1) := by decide +kernel
theorem dX6_advance_57 : decode cX6_advance 57 = .ok (.getfield 22, 3) := by decide +kernel
theorem dX6_advance_60 : decode cX6_advance 60 = .ok (.iconst 1, 1) := by decide +kernel
theorem dX6_advance_61 : decode cX6_advance 61 = .ok (.iadd, 1) := by decide +kernel
theorem dX6_advance_62 : decode cX6_advance 62 = .ok (.putfield 22, 3) := by decide +kernel
theorem dX6_advance_65 : decode cX6_advance 65 = .ok (.goto (-35), 3) := by decide +kernel
theorem dX6_advance_68 : decode cX6_advance 68 = .ok (.iload_n 1, 1) := by decide +kernel
theorem dX6_advance_69 : decode cX6_advance 69 = .ok (.ifCond .eq 18, 3) := by decide +kernel
theorem dX6_advance_72 : decode cX6_advance 72 = .ok (.aload_n 0, 1) := by decide +kernel
theorem dX6_advance_73 : decode cX6_advance 73 = .ok (.getfield 22, 3) := by decide +kernel
theorem dX6_advance_76 : decode cX6_advance 76 = .ok (.aload_n 0, 1) := by decide +kernel
theorem dX6_advance_77 : decode cX6_advance 77 = .ok (.getfield 25, 3) := by decide +kernel
theorem dX6_advance_80 : decode cX6_advance 80 = .ok (.if_icmp .ne 7, 3) := by decide +kernel
theorem dX6_advance_83 : decode cX6_advance 83 = .ok (.iconst 1, 1) := by decide +kernel
theorem dX6_advance_84 : decode cX6_advance 84 = .ok (.goto 4, 3) := by decide +kernel
theorem dX6_advance_87 : decode cX6_advance 87 = .ok (.iconst 0, 1) := by decide +kernel
theorem dX6_advance_88 : decode cX6_advance 88 = .ok (.istore_n 2, 1) := by decide +kernel
theorem dX6_advance_89 : decode cX6_advance 89 = .ok (.aload_n 0, 1) := by decide +kernel
theorem dX6_advance_90 : decode cX6_advance 90 = .ok (.aload_n 0, 1) := by decide +kernel
theorem dX6_advance_91 : decode cX6_advance 91 = .ok (.getfield 22, 3) := by decide +kernel
theorem dX6_advance_94 : decode cX6_advance 94 = .ok (.putfield 25, 3) := by decide +kernel
theorem dX6_advance_97 : decode cX6_advance 97 = .ok (.aload_n 0, 1) := by decide +kernel
theorem dX6_advance_98 : decode cX6_advance 98 = .ok (.getfield 22, 3) := by decide +kernel
theorem dX6_advance_101 : decode cX6_advance 101 = .ok (.aload_n 0, 1) := by decide +kernel
theorem dX6_advance_102 : decode cX6_advance 102 = .ok (.getfield 15, 3) := by decide +kernel
theorem dX6_advance_105 : decode cX6_advance 105 = .ok (.if_icmp .lt 11, 3) := by decide +kernel
theorem dX6_advance_108 : decode cX6_advance 108 = .ok (.aload_n 0, 1) := by decide +kernel
theorem dX6_advance_109 : decode cX6_advance 109 = .ok (.iconst 0, 1) := by decide +kernel
theorem dX6_advance_110 : decode cX6_advance 110 = .ok (.putfield 19, 3) := by decide +kernel
theorem dX6_advance_113 : decode cX6_advance 113 = .ok (.goto 171, 3) := by decide +kernel
theorem dX6_advance_116 : decode cX6_advance 116 = .ok (.aload_n 0, 1) := by decide +kernel
theorem dX6_advance_117 : decode cX6_advance 117 = .ok (.getfield 9, 3) := by decide +kernel
theorem dX6_advance_120 : decode cX6_advance 120 = .ok (.aload_n 0, 1) := by decide +kernel
theorem dX6_advance_121 : decode cX6_advance 121 = .ok (.getfield 22, 3) := by decide +kernel
theorem dX6_advance_124 : decode cX6_advance 124 = .ok (.baload, 1) := by decide +kernel
theorem dX6_advance_125 : decode cX6_advance 125 = .ok (.invokestatic 69, 3) := by decide +kernel
theorem dX6_advance_128 : decode cX6_advance 128 = .ok (.ifCond .eq 58, 3) := by decide +kernel
theorem dX6_advance_131 : decode cX6_advance 131 = .ok (.aload_n 0, 1) := by decide +kernel
theorem dX6_advance_132 : decode cX6_advance 132 = .ok (.getfield 25, 3) := by decide +kernel
theorem dX6_advance_135 : decode cX6_advance 135 = .ok (.aload_n 0, 1) := by decide +kernel
theorem dX6_advance_136 : decode cX6_advance 136 = .ok (.getfield 15, 3) := by decide +kernel
theorem dX6_advance_139 : decode cX6_advance 139 = .ok (.if_icmp .ge 31, 3) := by decide +kernel
theorem dX6_advance_142 : decode cX6_advance 142 = .ok (.aload_n 0, 1) := by decide +kernel
theorem dX6_advance_143 : decode cX6_advance 143 = .ok (.getfield 9, 3) := by decide +kernel
theorem dX6_advance_146 : decode cX6_advance 146 = .ok (.aload_n 0, 1) := by decide +kernel
theorem dX6_advance_147 : decode cX6_advance 147 = .ok (.getfield 25, 3) := by decide +kernel
theorem dX6_advance_150 : decode cX6_advance 150 = .ok (.baload, 1) := by decide +kernel
theorem dX6_advance_151 : decode cX6_advance 151 = .ok (.invokestatic 69, 3) := by decide +kernel
theorem dX6_advance_154 : decode cX6_advance 154 = .ok (.ifCond .eq 16, 3) := by decide +kernel
theorem dX6_advance_157 : decode cX6_advance 157 = .ok (.aload_n 0, 1) := by decide +kernel
theorem dX6_advance_158 : decode cX6_advance 158 = .ok (.dup, 1) := by decide +kernel
theorem dX6_advance_159 : decode cX6_advance 159 = .ok (.getfield 25, 3) := by decide +kernel
theorem dX6_advance_162 : decode cX6_advance 162 = .ok (.iconst 1, 1) := by decide +kernel
theorem dX6_advance_163 : decode cX6_advance 163 = .ok (.iadd, 1) := by decide +kernel
theorem dX6_advance_164 : decode cX6_advance 164 = .ok (.putfield 25, 3) := by decide +kernel
theorem dX6_advance_167 : decode cX6_advance 167 = .ok (.goto (-36), 3) := by decide +kernel
theorem dX6_advance_170 : decode cX6_advance 170 = .ok (.aload_n 0, 1) := by decide +kernel
theorem dX6_advance_171 : decode cX6_advance 171 = .ok (.iload_n 2, 1) := by decide +kernel
theorem dX6_advance_172 : decode cX6_advance 172 = .ok (.ifCond .eq 7, 3) := by decide +kernel
theorem dX6_advance_175 : decode cX6_advance 175 = .ok (.iconst 4, 1) := by decide +kernel
theorem dX6_advance_176 : decode cX6_advance 176 = .ok (.goto 4, 3) := by decide +kernel
theorem dX6_advance_179 : decode cX6_advance 179 = .ok (.iconst 2, 1) := by decide +kernel
theorem dX6_advance_180 : decode cX6_advance 180 = .ok (.putfield 19, 3) := by decide +kernel
theorem dX6_advance_183 : decode cX6_advance 183 = .ok (.goto 101, 3) := by decide +kernel
theorem dX6_advance_186 : decode cX6_advance 186 = .ok (.aload_n 0, 1) := by decide +kernel
theorem dX6_advance_187 : decode cX6_advance 187 = .ok (.getfield 9, 3) := by decide +kernel
theorem dX6_advance_190 : decode cX6_advance 190 = .ok (.aload_n 0, 1) := by decide +kernel
theorem dX6_advance_191 : decode cX6_advance 191 = .ok (.getfield 22, 3) := by decide +kernel
theorem dX6_advance_194 : decode cX6_advance 194 = .ok (.baload, 1) := by decide +kernel
theorem dX6_advance_195 : decode cX6_advance 195 = .ok (.invokestatic 73, 3) := by decide +kernel
theorem dX6_advance_198 : decode cX6_advance 198 = .ok (.ifCond .eq 71, 3) := by decide +kernel
theorem dX6_advance_201 : decode cX6_advance 201 = .ok (.aload_n 0, 1) := by decide +kernel
theorem dX6_advance_202 : decode cX6_advance 202 = .ok (.getfield 25, 3) := by decide +kernel
theorem dX6_advance_205 : decode cX6_advance 205 = .ok (.aload_n 0, 1) := by decide +kernel
theorem dX6_advance_206 : decode cX6_advance 206 = .ok (.getfield 15, 3) := by decide +kernel
theorem dX6_advance_209 : decode cX6_advance 209 = .ok (.if_icmp .ge 31, 3) := by decide +kernel
theorem dX6_advance_212 : decode cX6_advance 212 = .ok (.aload_n 0, 1) := by decide +kernel
theorem dX6_advance_213 : decode cX6_advance 213 = .ok (.getfield 9, 3) := by decide +kernel
theorem dX6_advance_216 : decode cX6_advance 216 = .ok (.aload_n 0, 1) := by decide +kernel
theorem dX6_advance_217 : decode cX6_advance 217 = .ok (.getfield 25, 3) := by decide +kernel
theorem dX6_advance_220 : decode cX6_advance 220 = .ok (.baload, 1) := by decide +kernel
theorem dX6_advance_221 : decode cX6_advance 221 = .ok (.invokestatic 73, 3) := by decide +kernel
theorem dX6_advance_224 : decode cX6_advance 224 = .ok (.ifCond .eq 16, 3) := by decide +kernel
theorem dX6_advance_227 : decode cX6_advance 227 = .ok (.aload_n 0, 1) := by decide +kernel
theorem dX6_advance_228 : decode cX6_advance 228 = .ok (.dup, 1) := by decide +kernel
theorem dX6_advance_229 : decode cX6_advance 229 = .ok (.getfield 25, 3) := by decide +kernel
theorem dX6_advance_232 : decode cX6_advance 232 = .ok (.iconst 1, 1) := by decide +kernel
theorem dX6_advance_233 : decode cX6_advance 233 = .ok (.iadd, 1) := by decide +kernel
theorem dX6_advance_234 : decode cX6_advance 234 = .ok (.putfield 25, 3) := by decide +kernel
theorem dX6_advance_237 : decode cX6_advance 237 = .ok (.goto (-36), 3) := by decide +kernel
theorem dX6_advance_240 : decode cX6_advance 240 = .ok (.aload_n 0, 1) := by decide +kernel
theorem dX6_advance_241 : decode cX6_advance 241 = .ok (.iload_n 2, 1) := by decide +kernel
theorem dX6_advance_242 : decode cX6_advance 242 = .ok (.ifCond .ne 16, 3) := by decide +kernel
theorem dX6_advance_245 : decode cX6_advance 245 = .ok (.aload_n 0, 1) := by decide +kernel
theorem dX6_advance_246 : decode cX6_advance 246 = .ok (.getfield 25, 3) := by decide +kernel
theorem dX6_advance_249 : decode cX6_advance 249 = .ok (.aload_n 0, 1) := by decide +kernel
theorem dX6_advance_250 : decode cX6_advance 250 = .ok (.getfield 22, 3) := by decide +kernel
theorem dX6_advance_253 : decode cX6_advance 253 = .ok (.isub, 1) := by decide +kernel
theorem dX6_advance_254 : decode cX6_advance 254 = .ok (.iconst 4, 1) := by decide +kernel
theorem dX6_advance_255 : decode cX6_advance 255 = .ok (.if_icmp .le 7, 3) := by decide +kernel
theorem dX6_advance_258 : decode cX6_advance 258 = .ok (.iconst 4, 1) := by decide +kernel
theorem dX6_advance_259 : decode cX6_advance 259 = .ok (.goto 4, 3) := by decide +kernel
theorem dX6_advance_262 : decode cX6_advance 262 = .ok (.iconst 1, 1) := by decide +kernel
theorem dX6_advance_263 : decode cX6_advance 263 = .ok (.putfield 19, 3) := by decide +kernel
theorem dX6_advance_266 : decode cX6_advance 266 = .ok (.goto 18, 3) := by decide +kernel
theorem dX6_advance_269 : decode cX6_advance 269 = .ok (.aload_n 0, 1) := by decide +kernel
theorem dX6_advance_270 : decode cX6_advance 270 = .ok (.dup, 1) := by decide +kernel
theorem dX6_advance_271 : decode cX6_advance 271 = .ok (.getfield 25, 3) := by decide +kernel
theorem dX6_advance_274 : decode cX6_advance 274 = .ok (.iconst 1, 1) := by decide +kernel
theorem dX6_advance_275 : decode cX6_advance 275 = .ok (.iadd, 1) := by decide +kernel
theorem dX6_advance_276 : decode cX6_advance 276 = .ok (.putfield 25, 3) := by decide +kernel
theorem dX6_advance_279 : decode cX6_advance 279 = .ok (.aload_n 0, 1) := by decide +kernel
theorem dX6_advance_280 : decode cX6_advance 280 = .ok (.iconst 3, 1) := by decide +kernel
theorem dX6_advance_281 : decode cX6_advance 281 = .ok (.putfield 19, 3) := by decide +kernel
theorem dX6_advance_284 : decode cX6_advance 284 = .ok (.return_, 1) := by decide +kernel
theorem dX6_isLetter_0 : decode cX6_isLetter 0 = .ok (.iload_n 0, 1) := by decide +kernel
theorem dX6_isLetter_1 : decode cX6_isLetter 1 = .ok (.bipush 97, 2) := by decide +kernel
theorem dX6_isLetter_3 : decode cX6_isLetter 3 = .ok (.if_icmp .lt 13, 3) := by decide +kernel
theorem dX6_isLetter_6 : decode cX6_isLetter 6 = .ok (.iload_n 0, 1) := by decide +kernel
theorem dX6_isLetter_7 : decode cX6_isLetter 7 = .ok (.bipush 122, 2) := by decide +kernel
theorem dX6_isLetter_9 : decode cX6_isLetter 9 = .ok (.if_icmp .gt 7, 3) := by decide +kernel
theorem dX6_isLetter_12 : decode cX6_isLetter 12 = .ok (.iconst 1, 1) := by decide +kernel
theorem dX6_isLetter_13 : decode cX6_isLetter 13 = .ok (.goto 4, 3) := by decide +kernel
theorem dX6_isLetter_16 : decode cX6_isLetter 16 = .ok (.iconst 0, 1) := by decide +kernel
theorem dX6_isLetter_17 : decode cX6_isLetter 17 = .ok (.ireturn, 1) := by decide +kernel
theorem dX6_isDigit_0 : decode cX6_isDigit 0 = .ok (.iload_n 0, 1) := by decide +kernel
theorem dX6_isDigit_1 : decode cX6_isDigit 1 = .ok (.bipush 48, 2) := by decide +kernel
theorem dX6_isDigit_3 : decode cX6_isDigit 3 = .ok (.if_icmp .lt 13, 3) := by decide +kernel
theorem dX6_isDigit_6 : decode cX6_isDigit 6 = .ok (.iload_n 0, 1) := by decide +kernel
theorem dX6_isDigit_7 : decode cX6_isDigit 7 = .ok (.bipush 57, 2) := by decide +kernel
theorem dX6_isDigit_9 : decode cX6_isDigit 9 = .ok (.if_icmp .gt 7, 3) := by decide +kernel
theorem dX6_isDigit_12 : decode cX6_isDigit 12 = .ok (.iconst 1, 1) := by decide +kernel
theorem dX6_isDigit_13 : decode cX6_isDigit 13 = .ok (.goto 4, 3) := by decide +kernel
theorem dX6_isDigit_16 : decode cX6_isDigit 16 = .ok (.iconst 0, 1) := by decide +kernel
theorem dX6_isDigit_17 : decode cX6_isDigit 17 = .ok (.ireturn, 1) := by decide +kernel
theorem dX6_isSign_0 : decode cX6_isSign 0 = .ok (.aload_n 0, 1) := by decide +kernel
theorem dX6_isSign_1 : decode cX6_isSign 1 = .ok (.getfield 19, 3) := by decide +kernel
theorem dX6_isSign_4 : decode cX6_isSign 4 = .ok (.iconst 3, 1) := by decide +kernel
theorem dX6_isSign_5 : decode cX6_isSign 5 = .ok (.if_icmp .ne 20, 3) := by decide +kernel
theorem dX6_isSign_8 : decode cX6_isSign 8 = .ok (.aload_n 0, 1) := by decide +kernel
theorem dX6_isSign_9 : decode cX6_isSign 9 = .ok (.getfield 9, 3) := by decide +kernel
theorem dX6_isSign_12 : decode cX6_isSign 12 = .ok (.aload_n 0, 1) := by decide +kernel
theorem dX6_isSign_13 : decode cX6_isSign 13 = .ok (.getfield 22, 3) := by decide +kernel
theorem dX6_isSign_16 : decode cX6_isSign 16 = .ok (.baload, 1) := by decide +kernel
theorem dX6_isSign_17 : decode cX6_isSign 17 = .ok (.iload_n 1, 1) := by decide +kernel
theorem dX6_isSign_18 : decode cX6_isSign 18 = .ok (.if_icmp .ne 7, 3) := by decide +kernel
theorem dX6_isSign_21 : decode cX6_isSign 21 = .ok (.iconst 1, 1) := by decide +kernel
theorem dX6_isSign_22 : decode cX6_isSign 22 = .ok (.goto 4, 3) := by decide +kernel
theorem dX6_isSign_25 : decode cX6_isSign 25 = .ok (.iconst 0, 1) := by decide +kernel
theorem dX6_isSign_26 : decode cX6_isSign 26 = .ok (.ireturn, 1) := by decide +kernel
theorem dX6_signAmong_0 : decode cX6_signAmong 0 = .ok (.iconst 0, 1) := by decide +kernel
theorem dX6_signAmong_1 : decode cX6_signAmong 1 = .ok (.istore_n 2, 1) := by decide +kernel
theorem dX6_signAmong_2 : decode cX6_signAmong 2 = .ok (.iload_n 2, 1) := by decide +kernel
theorem dX6_signAmong_3 : decode cX6_signAmong 3 = .ok (.aload_n 1, 1) := by decide +kernel
theorem dX6_signAmong_4 : decode cX6_signAmong 4 = .ok (.invokevirtual 76, 3) := by decide +kernel
theorem dX6_signAmong_7 : decode cX6_signAmong 7 = .ok (.if_icmp .ge 27, 3) := by decide +kernel
theorem dX6_signAmong_10 : decode cX6_signAmong 10 = .ok (.aload_n 0, 1) := by decide +kernel
theorem dX6_signAmong_11 : decode cX6_signAmong 11 = .ok (.aload_n 1, 1) := by decide +kernel
theorem dX6_signAmong_12 : decode cX6_signAmong 12 = .ok (.iload_n 2, 1) := by decide +kernel
theorem dX6_signAmong_13 : decode cX6_signAmong 13 = .ok (.invokevirtual 81, 3) := by decide +kernel
theorem dX6_signAmong_16 : decode cX6_signAmong 16 = .ok (.invokevirtual 85, 3) := by decide +kernel
theorem dX6_signAmong_19 : decode cX6_signAmong 19 = .ok (.ifCond .eq 9, 3) := by decide +kernel
theorem dX6_signAmong_22 : decode cX6_signAmong 22 = .ok (.aload_n 1, 1) := by decide +kernel
theorem dX6_signAmong_23 : decode cX6_signAmong 23 = .ok (.iload_n 2, 1) := by decide +kernel
theorem dX6_signAmong_24 : decode cX6_signAmong 24 = .ok (.invokevirtual 81, 3) := by decide +kernel
theorem dX6_signAmong_27 : decode cX6_signAmong 27 = .ok (.ireturn, 1) := by decide +kernel
theorem dX6_signAmong_28 : decode cX6_signAmong 28 = .ok (.iinc 2 1, 3) := by decide +kernel
theorem dX6_signAmong_31 : decode cX6_signAmong 31 = .ok (.goto (-29), 3) := by decide +kernel
theorem dX6_signAmong_34 : decode cX6_signAmong 34 = .ok (.iconst 0, 1) := by decide +kernel
theorem dX6_signAmong_35 : decode cX6_signAmong 35 = .ok (.ireturn, 1) := by decide +kernel
theorem dX6_isWord_0 : decode cX6_isWord 0 = .ok (.aload_n 0, 1) := by decide +kernel
theorem dX6_isWord_1 : decode cX6_isWord 1 = .ok (.getfield 19, 3) := by decide +kernel
theorem dX6_isWord_4 : decode cX6_isWord 4 = .ok (.iconst 2, 1) := by decide +kernel
theorem dX6_isWord_5 : decode cX6_isWord 5 = .ok (.if_icmp .ne 19, 3) := by decide +kernel
theorem dX6_isWord_8 : decode cX6_isWord 8 = .ok (.aload_n 0, 1) := by decide +kernel
theorem dX6_isWord_9 : decode cX6_isWord 9 = .ok (.getfield 25, 3) := by decide +kernel
theorem dX6_isWord_12 : decode cX6_isWord 12 = .ok (.aload_n 0, 1) := by decide +kernel
theorem dX6_isWord_13 : decode cX6_isWord 13 = .ok (.getfield 22, 3) := by decide +kernel
theorem dX6_isWord_16 : decode cX6_isWord 16 = .ok (.isub, 1) := by decide +kernel
theorem dX6_isWord_17 : decode cX6_isWord 17 = .ok (.aload_n 1, 1) := by decide +kernel
theorem dX6_isWord_18 : decode cX6_isWord 18 = .ok (.invokevirtual 76, 3) := by decide +kernel
theorem dX6_isWord_21 : decode cX6_isWord 21 = .ok (.if_icmp .eq 5, 3) := by decide +kernel
theorem dX6_isWord_24 : decode cX6_isWord 24 = .ok (.iconst 0, 1) := by decide +kernel
theorem dX6_isWord_25 : decode cX6_isWord 25 = .ok (.ireturn, 1) := by decide +kernel
theorem dX6_isWord_26 : decode cX6_isWord 26 = .ok (.iconst 0, 1) := by decide +kernel
theorem dX6_isWord_27 : decode cX6_isWord 27 = .ok (.istore_n 2, 1) := by decide +kernel
theorem dX6_isWord_28 : decode cX6_isWord 28 = .ok (.iload_n 2, 1) := by decide +kernel
theorem dX6_isWord_29 : decode cX6_isWord 29 = .ok (.aload_n 1, 1) := by decide +kernel
theorem dX6_isWord_30 : decode cX6_isWord 30 = .ok (.invokevirtual 76, 3) := by decide +kernel
theorem dX6_isWord_33 : decode cX6_isWord 33 = .ok (.if_icmp .ge 30, 3) := by decide +kernel
theorem dX6_isWord_36 : decode cX6_isWord 36 = .ok (.aload_n 0, 1) := by decide +kernel
theorem dX6_isWord_37 : decode cX6_isWord 37 = .ok (.getfield 9, 3) := by decide +kernel
theorem dX6_isWord_40 : decode cX6_isWord 40 = .ok (.aload_n 0, 1) := by decide +kernel
theorem dX6_isWord_41 : decode cX6_isWord 41 = .ok (.getfield 22, 3) := by decide +kernel
theorem dX6_isWord_44 : decode cX6_isWord 44 = .ok (.iload_n 2, 1) := by decide +kernel
theorem dX6_isWord_45 : decode cX6_isWord 45 = .ok (.iadd, 1) := by decide +kernel
theorem dX6_isWord_46 : decode cX6_isWord 46 = .ok (.baload, 1) := by decide +kernel
theorem dX6_isWord_47 : decode cX6_isWord 47 = .ok (.aload_n 1, 1) := by decide +kernel
theorem dX6_isWord_48 : decode cX6_isWord 48 = .ok (.iload_n 2, 1) := by decide +kernel
theorem dX6_isWord_49 : decode cX6_isWord 49 = .ok (.invokevirtual 81, 3) := by decide +kernel
theorem dX6_isWord_52 : decode cX6_isWord 52 = .ok (.if_icmp .eq 5, 3) := by decide +kernel
theorem dX6_isWord_55 : decode cX6_isWord 55 = .ok (.iconst 0, 1) := by decide +kernel
theorem dX6_isWord_56 : decode cX6_isWord 56 = .ok (.ireturn, 1) := by decide +kernel
theorem dX6_isWord_57 : decode cX6_isWord 57 = .ok (.iinc 2 1, 3) := by decide +kernel
theorem dX6_isWord_60 : decode cX6_isWord 60 = .ok (.goto (-32), 3) := by decide +kernel
theorem dX6_isWord_63 : decode cX6_isWord 63 = .ok (.iconst 1, 1) := by decide +kernel
theorem dX6_isWord_64 : decode cX6_isWord 64 = .ok (.ireturn, 1) := by decide +kernel
theorem dX6_readKey_0 : decode cX6_readKey 0 = .ok (.aload_n 0, 1) := by decide +kernel
theorem dX6_readKey_1 : decode cX6_readKey 1 = .ok (.ldc 89, 2) := by decide +kernel
theorem dX6_readKey_3 : decode cX6_readKey 3 = .ok (.invokevirtual 91, 3) := by decide +kernel
theorem dX6_readKey_6 : decode cX6_readKey 6 = .ok (.ifCond .eq 11, 3) := by decide +kernel
theorem dX6_readKey_9 : decode cX6_readKey 9 = .ok (.aload_n 0, 1) := by decide +kernel
theorem dX6_readKey_10 : decode cX6_readKey 10 = .ok (.iconst 0, 1) := by decide +kernel
theorem dX6_readKey_11 : decode cX6_readKey 11 = .ok (.putfield 28, 3) := by decide +kernel
theorem dX6_readKey_14 : decode cX6_readKey 14 = .ok (.goto 39, 3) := by decide +kernel
theorem dX6_readKey_17 : decode cX6_readKey 17 = .ok (.aload_n 0, 1) := by decide +kernel
theorem dX6_readKey_18 : decode cX6_readKey 18 = .ok (.ldc 95, 2) := by decide +kernel
theorem dX6_readKey_20 : decode cX6_readKey 20 = .ok (.invokevirtual 91, 3) := by decide +kernel
theorem dX6_readKey_23 : decode cX6_readKey 23 = .ok (.ifCond .eq 11, 3) := by decide +kernel
theorem dX6_readKey_26 : decode cX6_readKey 26 = .ok (.aload_n 0, 1) := by decide +kernel
theorem dX6_readKey_27 : decode cX6_readKey 27 = .ok (.iconst 1, 1) := by decide +kernel
theorem dX6_readKey_28 : decode cX6_readKey 28 = .ok (.putfield 28, 3) := by decide +kernel
theorem dX6_readKey_31 : decode cX6_readKey 31 = .ok (.goto 22, 3) := by decide +kernel
theorem dX6_readKey_34 : decode cX6_readKey 34 = .ok (.aload_n 0, 1) := by decide +kernel
theorem dX6_readKey_35 : decode cX6_readKey 35 = .ok (.ldc 97, 2) := by decide +kernel
theorem dX6_readKey_37 : decode cX6_readKey 37 = .ok (.invokevirtual 91, 3) := by decide +kernel
theorem dX6_readKey_40 : decode cX6_readKey 40 = .ok (.ifCond .eq 11, 3) := by decide +kernel
theorem dX6_readKey_43 : decode cX6_readKey 43 = .ok (.aload_n 0, 1) := by decide +kernel
theorem dX6_readKey_44 : decode cX6_readKey 44 = .ok (.iconst 2, 1) := by decide +kernel
theorem dX6_readKey_45 : decode cX6_readKey 45 = .ok (.putfield 28, 3) := by decide +kernel
theorem dX6_readKey_48 : decode cX6_readKey 48 = .ok (.goto 5, 3) := by decide +kernel
theorem dX6_readKey_51 : decode cX6_readKey 51 = .ok (.iconst 0, 1) := by decide +kernel
theorem dX6_readKey_52 : decode cX6_readKey 52 = .ok (.ireturn, 1) := by decide +kernel
theorem dX6_readKey_53 : decode cX6_readKey 53 = .ok (.aload_n 0, 1) := by decide +kernel
theorem dX6_readKey_54 : decode cX6_readKey 54 = .ok (.invokevirtual 47, 3) := by decide +kernel
theorem dX6_readKey_57 : decode cX6_readKey 57 = .ok (.iconst 1, 1) := by decide +kernel
theorem dX6_readKey_58 : decode cX6_readKey 58 = .ok (.ireturn, 1) := by decide +kernel
theorem dX6_addStep_0 : decode cX6_addStep 0 = .ok (.aload_n 0, 1) := by decide +kernel
theorem dX6_addStep_1 : decode cX6_addStep 1 = .ok (.getfield 38, 3) := by decide +kernel
theorem dX6_addStep_4 : decode cX6_addStep 4 = .ok (.aload_n 0, 1) := by decide +kernel
theorem dX6_addStep_5 : decode cX6_addStep 5 = .ok (.getfield 34, 3) := by decide +kernel
theorem dX6_addStep_8 : decode cX6_addStep 8 = .ok (.arraylength, 1) := by decide +kernel
theorem dX6_addStep_9 : decode cX6_addStep 9 = .ok (.if_icmp .ge 23, 3) := by decide +kernel
theorem dX6_addStep_12 : decode cX6_addStep 12 = .ok (.aload_n 0, 1) := by decide +kernel
theorem dX6_addStep_13 : decode cX6_addStep 13 = .ok (.getfield 34, 3) := by decide +kernel
theorem dX6_addStep_16 : decode cX6_addStep 16 = .ok (.aload_n 0, 1) := by decide +kernel
theorem dX6_addStep_17 : decode cX6_addStep 17 = .ok (.getfield 38, 3) := by decide +kernel
theorem dX6_addStep_20 : decode cX6_addStep 20 = .ok (.iload_n 1, 1) := by decide +kernel
theorem dX6_addStep_21 : decode cX6_addStep 21 = .ok (.iastore, 1) := by decide +kernel
theorem dX6_addStep_22 : decode cX6_addStep 22 = .ok (.aload_n 0, 1) := by decide +kernel
theorem dX6_addStep_23 : decode cX6_addStep 23 = .ok (.dup, 1) := by decide +kernel
theorem dX6_addStep_24 : decode cX6_addStep 24 = .ok (.getfield 38, 3) := by decide +kernel
theorem dX6_addStep_27 : decode cX6_addStep 27 = .ok (.iconst 1, 1) := by decide +kernel
theorem dX6_addStep_28 : decode cX6_addStep 28 = .ok (.iadd, 1) := by decide +kernel
theorem dX6_addStep_29 : decode cX6_addStep 29 = .ok (.putfield 38, 3) := by decide +kernel
theorem dX6_addStep_32 : decode cX6_addStep 32 = .ok (.return_, 1) := by decide +kernel
theorem dX6_readOr_0 : decode cX6_readOr 0 = .ok (.aload_n 0, 1) := by decide +kernel
theorem dX6_readOr_1 : decode cX6_readOr 1 = .ok (.iload_n 1, 1) := by decide +kernel
theorem dX6_readOr_2 : decode cX6_readOr 2 = .ok (.iload_n 2, 1) := by decide +kernel
theorem dX6_readOr_3 : decode cX6_readOr 3 = .ok (.invokevirtual 99, 3) := by decide +kernel
theorem dX6_readOr_6 : decode cX6_readOr 6 = .ok (.istore_n 3, 1) := by decide +kernel
theorem dX6_readOr_7 : decode cX6_readOr 7 = .ok (.iconst 0, 1) := by decide +kernel
theorem dX6_readOr_8 : decode cX6_readOr 8 = .ok (.istore 4, 2) := by decide +kernel
theorem dX6_readOr_10 : decode cX6_readOr 10 = .ok (.iload 4, 2) := by decide +kernel
theorem dX6_readOr_12 : decode cX6_readOr 12 = .ok (.bipush 96, 2) := by decide +kernel
theorem dX6_readOr_14 : decode cX6_readOr 14 = .ok (.if_icmp .ge 39, 3) := by decide +kernel
theorem dX6_readOr_17 : decode cX6_readOr 17 = .ok (.iload_n 3, 1) := by decide +kernel
theorem dX6_readOr_18 : decode cX6_readOr 18 = .ok (.ifCond .eq 35, 3) := by decide +kernel
theorem dX6_readOr_21 : decode cX6_readOr 21 = .ok (.aload_n 0, 1) := by decide +kernel
theorem dX6_readOr_22 : decode cX6_readOr 22 = .ok (.bipush 124, 2) := by decide +kernel
theorem dX6_readOr_24 : decode cX6_readOr 24 = .ok (.invokevirtual 85, 3) := by decide +kernel
theorem dX6_readOr_27 : decode cX6_readOr 27 = .ok (.ifCond .eq 26, 3) := by decide +kernel
theorem dX6_readOr_30 : decode cX6_readOr 30 = .ok (.aload_n 0, 1) := by decide +kernel
theorem dX6_readOr_31 : decode cX6_readOr 31 = .ok (.invokevirtual 47, 3) := by decide +kernel
theorem dX6_readOr_34 : decode cX6_readOr 34 = .ok (.aload_n 0, 1) := by decide +kernel
theorem dX6_readOr_35 : decode cX6_readOr 35 = .ok (.iload_n 1, 1) := by decide +kernel
theorem dX6_readOr_36 : decode cX6_readOr 36 = .ok (.iload_n 2, 1) := by decide +kernel
theorem dX6_readOr_37 : decode cX6_readOr 37 = .ok (.invokevirtual 99, 3) := by decide +kernel
theorem dX6_readOr_40 : decode cX6_readOr 40 = .ok (.istore_n 3, 1) := by decide +kernel
theorem dX6_readOr_41 : decode cX6_readOr 41 = .ok (.aload_n 0, 1) := by decide +kernel
theorem dX6_readOr_42 : decode cX6_readOr 42 = .ok (.bipush (-124), 2) := by decide +kernel
theorem dX6_readOr_44 : decode cX6_readOr 44 = .ok (.invokevirtual 102, 3) := by decide +kernel
theorem dX6_readOr_47 : decode cX6_readOr 47 = .ok (.iinc 4 1, 3) := by decide +kernel
theorem dX6_readOr_50 : decode cX6_readOr 50 = .ok (.goto (-40), 3) := by decide +kernel
theorem dX6_readOr_53 : decode cX6_readOr 53 = .ok (.iload_n 3, 1) := by decide +kernel
theorem dX6_readOr_54 : decode cX6_readOr 54 = .ok (.ireturn, 1) := by decide +kernel
theorem dX6_readAnd_0 : decode cX6_readAnd 0 = .ok (.aload_n 0, 1) := by decide +kernel
theorem dX6_readAnd_1 : decode cX6_readAnd 1 = .ok (.iload_n 1, 1) := by decide +kernel
theorem dX6_readAnd_2 : decode cX6_readAnd 2 = .ok (.iload_n 2, 1) := by decide +kernel
theorem dX6_readAnd_3 : decode cX6_readAnd 3 = .ok (.invokevirtual 106, 3) := by decide +kernel
theorem dX6_readAnd_6 : decode cX6_readAnd 6 = .ok (.istore_n 3, 1) := by decide +kernel
theorem dX6_readAnd_7 : decode cX6_readAnd 7 = .ok (.iconst 0, 1) := by decide +kernel
theorem dX6_readAnd_8 : decode cX6_readAnd 8 = .ok (.istore 4, 2) := by decide +kernel
theorem dX6_readAnd_10 : decode cX6_readAnd 10 = .ok (.iload 4, 2) := by decide +kernel
theorem dX6_readAnd_12 : decode cX6_readAnd 12 = .ok (.bipush 96, 2) := by decide +kernel
theorem dX6_readAnd_14 : decode cX6_readAnd 14 = .ok (.if_icmp .ge 39, 3) := by decide +kernel
theorem dX6_readAnd_17 : decode cX6_readAnd 17 = .ok (.iload_n 3, 1) := by decide +kernel
theorem dX6_readAnd_18 : decode cX6_readAnd 18 = .ok (.ifCond .eq 35, 3) := by decide +kernel
theorem dX6_readAnd_21 : decode cX6_readAnd 21 = .ok (.aload_n 0, 1) := by decide +kernel
theorem dX6_readAnd_22 : decode cX6_readAnd 22 = .ok (.bipush 38, 2) := by decide +kernel
theorem dX6_readAnd_24 : decode cX6_readAnd 24 = .ok (.invokevirtual 85, 3) := by decide +kernel
theorem dX6_readAnd_27 : decode cX6_readAnd 27 = .ok (.ifCond .eq 26, 3) := by decide +kernel
theorem dX6_readAnd_30 : decode cX6_readAnd 30 = .ok (.aload_n 0, 1) := by decide +kernel
theorem dX6_readAnd_31 : decode cX6_readAnd 31 = .ok (.invokevirtual 47, 3) := by decide +kernel
theorem dX6_readAnd_34 : decode cX6_readAnd 34 = .ok (.aload_n 0, 1) := by decide +kernel
theorem dX6_readAnd_35 : decode cX6_readAnd 35 = .ok (.iload_n 1, 1) := by decide +kernel
theorem dX6_readAnd_36 : decode cX6_readAnd 36 = .ok (.iload_n 2, 1) := by decide +kernel
theorem dX6_readAnd_37 : decode cX6_readAnd 37 = .ok (.invokevirtual 106, 3) := by decide +kernel
theorem dX6_readAnd_40 : decode cX6_readAnd 40 = .ok (.istore_n 3, 1) := by decide +kernel
theorem dX6_readAnd_41 : decode cX6_readAnd 41 = .ok (.aload_n 0, 1) := by decide +kernel
theorem dX6_readAnd_42 : decode cX6_readAnd 42 = .ok (.bipush (-38), 2) := by decide +kernel
theorem dX6_readAnd_44 : decode cX6_readAnd 44 = .ok (.invokevirtual 102, 3) := by decide +kernel
theorem dX6_readAnd_47 : decode cX6_readAnd 47 = .ok (.iinc 4 1, 3) := by decide +kernel
theorem dX6_readAnd_50 : decode cX6_readAnd 50 = .ok (.goto (-40), 3) := by decide +kernel
theorem dX6_readAnd_53 : decode cX6_readAnd 53 = .ok (.iload_n 3, 1) := by decide +kernel
theorem dX6_readAnd_54 : decode cX6_readAnd 54 = .ok (.ireturn, 1) := by decide +kernel
theorem dX6_readTest_0 : decode cX6_readTest 0 = .ok (.aload_n 0, 1) := by decide +kernel
theorem dX6_readTest_1 : decode cX6_readTest 1 = .ok (.iload_n 1, 1) := by decide +kernel
theorem dX6_readTest_2 : decode cX6_readTest 2 = .ok (.iload_n 2, 1) := by decide +kernel
theorem dX6_readTest_3 : decode cX6_readTest 3 = .ok (.invokevirtual 109, 3) := by decide +kernel
theorem dX6_readTest_6 : decode cX6_readTest 6 = .ok (.ifCond .ne 5, 3) := by decide +kernel
theorem dX6_readTest_9 : decode cX6_readTest 9 = .ok (.iconst 0, 1) := by decide +kernel
theorem dX6_readTest_10 : decode cX6_readTest 10 = .ok (.ireturn, 1) := by decide +kernel
theorem dX6_readTest_11 : decode cX6_readTest 11 = .ok (.aload_n 0, 1) := by decide +kernel
theorem dX6_readTest_12 : decode cX6_readTest 12 = .ok (.ldc 112, 2) := by decide +kernel
theorem dX6_readTest_14 : decode cX6_readTest 14 = .ok (.invokevirtual 114, 3) := by decide +kernel
theorem dX6_readTest_17 : decode cX6_readTest 17 = .ok (.istore_n 3, 1) := by decide +kernel
theorem dX6_readTest_18 : decode cX6_readTest 18 = .ok (.iload_n 3, 1) := by decide +kernel
theorem dX6_readTest_19 : decode cX6_readTest 19 = .ok (.ifCond .ne 5, 3) := by decide +kernel
theorem dX6_readTest_22 : decode cX6_readTest 22 = .ok (.iconst 1, 1) := by decide +kernel
theorem dX6_readTest_23 : decode cX6_readTest 23 = .ok (.ireturn, 1) := by decide +kernel
theorem dX6_readTest_24 : decode cX6_readTest 24 = .ok (.aload_n 0, 1) := by decide +kernel
theorem dX6_readTest_25 : decode cX6_readTest 25 = .ok (.invokevirtual 47, 3) := by decide +kernel
theorem dX6_readTest_28 : decode cX6_readTest 28 = .ok (.aload_n 0, 1) := by decide +kernel
theorem dX6_readTest_29 : decode cX6_readTest 29 = .ok (.iload_n 1, 1) := by decide +kernel
theorem dX6_readTest_30 : decode cX6_readTest 30 = .ok (.iload_n 2, 1) := by decide +kernel
theorem dX6_readTest_31 : decode cX6_readTest 31 = .ok (.invokevirtual 109, 3) := by decide +kernel
theorem dX6_readTest_34 : decode cX6_readTest 34 = .ok (.istore 4, 2) := by decide +kernel
theorem dX6_readTest_36 : decode cX6_readTest 36 = .ok (.aload_n 0, 1) := by decide +kernel
theorem dX6_readTest_37 : decode cX6_readTest 37 = .ok (.iload_n 3, 1) := by decide +kernel
theorem dX6_readTest_38 : decode cX6_readTest 38 = .ok (.ineg, 1) := by decide +kernel
theorem dX6_readTest_39 : decode cX6_readTest 39 = .ok (.invokevirtual 102, 3) := by decide +kernel
theorem dX6_readTest_42 : decode cX6_readTest 42 = .ok (.iload 4, 2) := by decide +kernel
theorem dX6_readTest_44 : decode cX6_readTest 44 = .ok (.ireturn, 1) := by decide +kernel
theorem dX6_readSum_0 : decode cX6_readSum 0 = .ok (.aload_n 0, 1) := by decide +kernel
theorem dX6_readSum_1 : decode cX6_readSum 1 = .ok (.iload_n 1, 1) := by decide +kernel
theorem dX6_readSum_2 : decode cX6_readSum 2 = .ok (.iload_n 2, 1) := by decide +kernel
theorem dX6_readSum_3 : decode cX6_readSum 3 = .ok (.invokevirtual 118, 3) := by decide +kernel
theorem dX6_readSum_6 : decode cX6_readSum 6 = .ok (.istore_n 3, 1) := by decide +kernel
theorem dX6_readSum_7 : decode cX6_readSum 7 = .ok (.aload_n 0, 1) := by decide +kernel
theorem dX6_readSum_8 : decode cX6_readSum 8 = .ok (.ldc 121, 2) := by decide +kernel
theorem dX6_readSum_10 : decode cX6_readSum 10 = .ok (.invokevirtual 114, 3) := by decide +kernel
theorem dX6_readSum_13 : decode cX6_readSum 13 = .ok (.istore 4, 2) := by decide +kernel
theorem dX6_readSum_15 : decode cX6_readSum 15 = .ok (.iconst 0, 1) := by decide +kernel
theorem dX6_readSum_16 : decode cX6_readSum 16 = .ok (.istore 5, 2) := by decide +kernel
theorem dX6_readSum_18 : decode cX6_readSum 18 = .ok (.iload 5, 2) := by decide +kernel
theorem dX6_readSum_20 : decode cX6_readSum 20 = .ok (.bipush 96, 2) := by decide +kernel
theorem dX6_readSum_22 : decode cX6_readSum 22 = .ok (.if_icmp .ge 44, 3) := by decide +kernel
theorem dX6_readSum_25 : decode cX6_readSum 25 = .ok (.iload_n 3, 1) := by decide +kernel
theorem dX6_readSum_26 : decode cX6_readSum 26 = .ok (.ifCond .eq 40, 3) := by decide +kernel
theorem dX6_readSum_29 : decode cX6_readSum 29 = .ok (.iload 4, 2) := by decide +kernel
theorem dX6_readSum_31 : decode cX6_readSum 31 = .ok (.ifCond .eq 35, 3) := by decide +kernel
theorem dX6_readSum_34 : decode cX6_readSum 34 = .ok (.aload_n 0, 1) := by decide +kernel
theorem dX6_readSum_35 : decode cX6_readSum 35 = .ok (.invokevirtual 47, 3) := by decide +kernel
theorem dX6_readSum_38 : decode cX6_readSum 38 = .ok (.aload_n 0, 1) := by decide +kernel
theorem dX6_readSum_39 : decode cX6_readSum 39 = .ok (.iload_n 1, 1) := by decide +kernel
theorem dX6_readSum_40 : decode cX6_readSum 40 = .ok (.iload_n 2, 1) := by decide +kernel
theorem dX6_readSum_41 : decode cX6_readSum 41 = .ok (.invokevirtual 118, 3) := by decide +kernel
theorem dX6_readSum_44 : decode cX6_readSum 44 = .ok (.istore_n 3, 1) := by decide +kernel
theorem dX6_readSum_45 : decode cX6_readSum 45 = .ok (.aload_n 0, 1) := by decide +kernel
theorem dX6_readSum_46 : decode cX6_readSum 46 = .ok (.iload 4, 2) := by decide +kernel
theorem dX6_readSum_48 : decode cX6_readSum 48 = .ok (.ineg, 1) := by decide +kernel
theorem dX6_readSum_49 : decode cX6_readSum 49 = .ok (.invokevirtual 102, 3) := by decide +kernel
theorem dX6_readSum_52 : decode cX6_readSum 52 = .ok (.aload_n 0, 1) := by decide +kernel
theorem dX6_readSum_53 : decode cX6_readSum 53 = .ok (.ldc 121, 2) := by decide +kernel
theorem dX6_readSum_55 : decode cX6_readSum 55 = .ok (.invokevirtual 114, 3) := by decide +kernel
theorem dX6_readSum_58 : decode cX6_readSum 58 = .ok (.istore 4, 2) := by decide +kernel
theorem dX6_readSum_60 : decode cX6_readSum 60 = .ok (.iinc 5 1, 3) := by decide +kernel
theorem dX6_readSum_63 : decode cX6_readSum 63 = .ok (.goto (-45), 3) := by decide +kernel
theorem dX6_readSum_66 : decode cX6_readSum 66 = .ok (.iload_n 3, 1) := by decide +kernel
theorem dX6_readSum_67 : decode cX6_readSum 67 = .ok (.ireturn, 1) := by decide +kernel
theorem dX6_readTerm_0 : decode cX6_readTerm 0 = .ok (.aload_n 0, 1) := by decide +kernel
theorem dX6_readTerm_1 : decode cX6_readTerm 1 = .ok (.iload_n 1, 1) := by decide +kernel
theorem dX6_readTerm_2 : decode cX6_readTerm 2 = .ok (.iload_n 2, 1) := by decide +kernel
theorem dX6_readTerm_3 : decode cX6_readTerm 3 = .ok (.invokevirtual 123, 3) := by decide +kernel
theorem dX6_readTerm_6 : decode cX6_readTerm 6 = .ok (.istore_n 3, 1) := by decide +kernel
theorem dX6_readTerm_7 : decode cX6_readTerm 7 = .ok (.aload_n 0, 1) := by decide +kernel
theorem dX6_readTerm_8 : decode cX6_readTerm 8 = .ok (.ldc 126, 2) := by decide +kernel
theorem dX6_readTerm_10 : decode cX6_readTerm 10 = .ok (.invokevirtual 114, 3) := by decide +kernel
theorem dX6_readTerm_13 : decode cX6_readTerm 13 = .ok (.istore 4, 2) := by decide +kernel
theorem dX6_readTerm_15 : decode cX6_readTerm 15 = .ok (.iconst 0, 1) := by decide +kernel
theorem dX6_readTerm_16 : decode cX6_readTerm 16 = .ok (.istore 5, 2) := by decide +kernel
theorem dX6_readTerm_18 : decode cX6_readTerm 18 = .ok (.iload 5, 2) := by decide +kernel
theorem dX6_readTerm_20 : decode cX6_readTerm 20 = .ok (.bipush 96, 2) := by decide +kernel
theorem dX6_readTerm_22 : decode cX6_readTerm 22 = .ok (.if_icmp .ge 44, 3) := by decide +kernel
theorem dX6_readTerm_25 : decode cX6_readTerm 25 = .ok (.iload_n 3, 1) := by decide +kernel
theorem dX6_readTerm_26 : decode cX6_readTerm 26 = .ok (.ifCond .eq 40, 3) := by decide +kernel
theorem dX6_readTerm_29 : decode cX6_readTerm 29 = .ok (.iload 4, 2) := by decide +kernel
theorem dX6_readTerm_31 : decode cX6_readTerm 31 = .ok (.ifCond .eq 35, 3) := by decide +kernel
theorem dX6_readTerm_34 : decode cX6_readTerm 34 = .ok (.aload_n 0, 1) := by decide +kernel
theorem dX6_readTerm_35 : decode cX6_readTerm 35 = .ok (.invokevirtual 47, 3) := by decide +kernel
theorem dX6_readTerm_38 : decode cX6_readTerm 38 = .ok (.aload_n 0, 1) := by decide +kernel
theorem dX6_readTerm_39 : decode cX6_readTerm 39 = .ok (.iload_n 1, 1) := by decide +kernel
theorem dX6_readTerm_40 : decode cX6_readTerm 40 = .ok (.iload_n 2, 1) := by decide +kernel
theorem dX6_readTerm_41 : decode cX6_readTerm 41 = .ok (.invokevirtual 123, 3) := by decide +kernel
theorem dX6_readTerm_44 : decode cX6_readTerm 44 = .ok (.istore_n 3, 1) := by decide +kernel
theorem dX6_readTerm_45 : decode cX6_readTerm 45 = .ok (.aload_n 0, 1) := by decide +kernel
theorem dX6_readTerm_46 : decode cX6_readTerm 46 = .ok (.iload 4, 2) := by decide +kernel
theorem dX6_readTerm_48 : decode cX6_readTerm 48 = .ok (.ineg, 1) := by decide +kernel
theorem dX6_readTerm_49 : decode cX6_readTerm 49 = .ok (.invokevirtual 102, 3) := by decide +kernel
theorem dX6_readTerm_52 : decode cX6_readTerm 52 = .ok (.aload_n 0, 1) := by decide +kernel
theorem dX6_readTerm_53 : decode cX6_readTerm 53 = .ok (.ldc 126, 2) := by decide +kernel
theorem dX6_readTerm_55 : decode cX6_readTerm 55 = .ok (.invokevirtual 114, 3) := by decide +kernel
theorem dX6_readTerm_58 : decode cX6_readTerm 58 = .ok (.istore 4, 2) := by decide +kernel
theorem dX6_readTerm_60 : decode cX6_readTerm 60 = .ok (.iinc 5 1, 3) := by decide +kernel
theorem dX6_readTerm_63 : decode cX6_readTerm 63 = .ok (.goto (-45), 3) := by decide +kernel
theorem dX6_readTerm_66 : decode cX6_readTerm 66 = .ok (.iload_n 3, 1) := by decide +kernel
theorem dX6_readTerm_67 : decode cX6_readTerm 67 = .ok (.ireturn, 1) := by decide +kernel
theorem dX6_readPiece_0 : decode cX6_readPiece 0 = .ok (.aload_n 0, 1) := by decide +kernel
theorem dX6_readPiece_1 : decode cX6_readPiece 1 = .ok (.getfield 19, 3) := by decide +kernel
theorem dX6_readPiece_4 : decode cX6_readPiece 4 = .ok (.iconst 1, 1) := by decide +kernel
theorem dX6_readPiece_5 : decode cX6_readPiece 5 = .ok (.if_icmp .ne 8, 3) := by decide +kernel
theorem dX6_readPiece_8 : decode cX6_readPiece 8 = .ok (.aload_n 0, 1) := by decide +kernel
theorem dX6_readPiece_9 : decode cX6_readPiece 9 = .ok (.invokevirtual 128, 3) := by decide +kernel
theorem dX6_readPiece_12 : decode cX6_readPiece 12 = .ok (.ireturn, 1) := by decide +kernel
theorem dX6_readPiece_13 : decode cX6_readPiece 13 = .ok (.aload_n 0, 1) := by decide +kernel
theorem dX6_readPiece_14 : decode cX6_readPiece 14 = .ok (.getfield 19, 3) := by decide +kernel
theorem dX6_readPiece_17 : decode cX6_readPiece 17 = .ok (.iconst 2, 1) := by decide +kernel
theorem dX6_readPiece_18 : decode cX6_readPiece 18 = .ok (.if_icmp .ne 8, 3) := by decide +kernel
theorem dX6_readPiece_21 : decode cX6_readPiece 21 = .ok (.aload_n 0, 1) := by decide +kernel
theorem dX6_readPiece_22 : decode cX6_readPiece 22 = .ok (.invokevirtual 131, 3) := by decide +kernel
theorem dX6_readPiece_25 : decode cX6_readPiece 25 = .ok (.ireturn, 1) := by decide +kernel
theorem dX6_readPiece_26 : decode cX6_readPiece 26 = .ok (.aload_n 0, 1) := by decide +kernel
theorem dX6_readPiece_27 : decode cX6_readPiece 27 = .ok (.bipush 33, 2) := by decide +kernel
theorem dX6_readPiece_29 : decode cX6_readPiece 29 = .ok (.invokevirtual 85, 3) := by decide +kernel
theorem dX6_readPiece_32 : decode cX6_readPiece 32 = .ok (.ifCond .eq 30, 3) := by decide +kernel
theorem dX6_readPiece_35 : decode cX6_readPiece 35 = .ok (.iload_n 2, 1) := by decide +kernel
theorem dX6_readPiece_36 : decode cX6_readPiece 36 = .ok (.bipush 8, 2) := by decide +kernel
theorem dX6_readPiece_38 : decode cX6_readPiece 38 = .ok (.if_icmp .ge 24, 3) := by decide +kernel
theorem dX6_readPiece_41 : decode cX6_readPiece 41 = .ok (.aload_n 0, 1) := by decide +kernel
theorem dX6_readPiece_42 : decode cX6_readPiece 42 = .ok (.invokevirtual 47, 3) := by decide +kernel
theorem dX6_readPiece_45 : decode cX6_readPiece 45 = .ok (.aload_n 0, 1) := by decide +kernel
theorem dX6_readPiece_46 : decode cX6_readPiece 46 = .ok (.iload_n 1, 1) := by decide +kernel
theorem dX6_readPiece_47 : decode cX6_readPiece 47 = .ok (.iload_n 2, 1) := by decide +kernel
theorem dX6_readPiece_48 : decode cX6_readPiece 48 = .ok (.iconst 1, 1) := by decide +kernel
theorem dX6_readPiece_49 : decode cX6_readPiece 49 = .ok (.iadd, 1) := by decide +kernel
theorem dX6_readPiece_50 : decode cX6_readPiece 50 = .ok (.invokevirtual 123, 3) := by decide +kernel
theorem dX6_readPiece_53 : decode cX6_readPiece 53 = .ok (.istore_n 3, 1) := by decide +kernel
theorem dX6_readPiece_54 : decode cX6_readPiece 54 = .ok (.aload_n 0, 1) := by decide +kernel
theorem dX6_readPiece_55 : decode cX6_readPiece 55 = .ok (.bipush (-33), 2) := by decide +kernel
theorem dX6_readPiece_57 : decode cX6_readPiece 57 = .ok (.invokevirtual 102, 3) := by decide +kernel
theorem dX6_readPiece_60 : decode cX6_readPiece 60 = .ok (.iload_n 3, 1) := by decide +kernel
theorem dX6_readPiece_61 : decode cX6_readPiece 61 = .ok (.ireturn, 1) := by decide +kernel
theorem dX6_readPiece_62 : decode cX6_readPiece 62 = .ok (.aload_n 0, 1) := by decide +kernel
theorem dX6_readPiece_63 : decode cX6_readPiece 63 = .ok (.bipush 40, 2) := by decide +kernel
theorem dX6_readPiece_65 : decode cX6_readPiece 65 = .ok (.invokevirtual 85, 3) := by decide +kernel
theorem dX6_readPiece_68 : decode cX6_readPiece 68 = .ok (.ifCond .eq 41, 3) := by decide +kernel
theorem dX6_readPiece_71 : decode cX6_readPiece 71 = .ok (.iload_n 1, 1) := by decide +kernel
theorem dX6_readPiece_72 : decode cX6_readPiece 72 = .ok (.bipush 8, 2) := by decide +kernel
theorem dX6_readPiece_74 : decode cX6_readPiece 74 = .ok (.if_icmp .ge 35, 3) := by decide +kernel
theorem dX6_readPiece_77 : decode cX6_readPiece 77 = .ok (.aload_n 0, 1) := by decide +kernel
theorem dX6_readPiece_78 : decode cX6_readPiece 78 = .ok (.invokevirtual 47, 3) := by decide +kernel
theorem dX6_readPiece_81 : decode cX6_readPiece 81 = .ok (.aload_n 0, 1) := by decide +kernel
theorem dX6_readPiece_82 : decode cX6_readPiece 82 = .ok (.iload_n 1, 1) := by decide +kernel
theorem dX6_readPiece_83 : decode cX6_readPiece 83 = .ok (.iconst 1, 1) := by decide +kernel
theorem dX6_readPiece_84 : decode cX6_readPiece 84 = .ok (.iadd, 1) := by decide +kernel
theorem dX6_readPiece_85 : decode cX6_readPiece 85 = .ok (.iload_n 2, 1) := by decide +kernel
theorem dX6_readPiece_86 : decode cX6_readPiece 86 = .ok (.invokevirtual 54, 3) := by decide +kernel
theorem dX6_readPiece_89 : decode cX6_readPiece 89 = .ok (.ifCond .eq 12, 3) := by decide +kernel
theorem dX6_readPiece_92 : decode cX6_readPiece 92 = .ok (.aload_n 0, 1) := by decide +kernel
theorem dX6_readPiece_93 : decode cX6_readPiece 93 = .ok (.bipush 41, 2) := by decide +kernel
theorem dX6_readPiece_95 : decode cX6_readPiece 95 = .ok (.invokevirtual 85, 3) := by decide +kernel
theorem dX6_readPiece_98 : decode cX6_readPiece 98 = .ok (.ifCond .ne 5, 3) := by decide +kernel
theorem dX6_readPiece_101 : decode cX6_readPiece 101 = .ok (.iconst 0, 1) := by decide +kernel
theorem dX6_readPiece_102 : decode cX6_readPiece 102 = .ok (.ireturn, 1) := by decide +kernel
theorem dX6_readPiece_103 : decode cX6_readPiece 103 = .ok (.aload_n 0, 1) := by decide +kernel
theorem dX6_readPiece_104 : decode cX6_readPiece 104 = .ok (.invokevirtual 47, 3) := by decide +kernel
theorem dX6_readPiece_107 : decode cX6_readPiece 107 = .ok (.iconst 1, 1) := by decide +kernel
theorem dX6_readPiece_108 : decode cX6_readPiece 108 = .ok (.ireturn, 1) := by decide +kernel
theorem dX6_readPiece_109 : decode cX6_readPiece 109 = .ok (.iconst 0, 1) := by decide +kernel
theorem dX6_readPiece_110 : decode cX6_readPiece 110 = .ok (.ireturn, 1) := by decide +kernel
theorem dX6_readNumber_0 : decode cX6_readNumber 0 = .ok (.iconst 0, 1) := by decide +kernel
theorem dX6_readNumber_1 : decode cX6_readNumber 1 = .ok (.istore_n 1, 1) := by decide +kernel
theorem dX6_readNumber_2 : decode cX6_readNumber 2 = .ok (.aload_n 0, 1) := by decide +kernel
theorem dX6_readNumber_3 : decode cX6_readNumber 3 = .ok (.getfield 22, 3) := by decide +kernel
theorem dX6_readNumber_6 : decode cX6_readNumber 6 = .ok (.istore_n 2, 1) := by decide +kernel
theorem dX6_readNumber_7 : decode cX6_readNumber 7 = .ok (.iload_n 2, 1) := by decide +kernel
theorem dX6_readNumber_8 : decode cX6_readNumber 8 = .ok (.aload_n 0, 1) := by decide +kernel
theorem dX6_readNumber_9 : decode cX6_readNumber 9 = .ok (.getfield 25, 3) := by decide +kernel
theorem dX6_readNumber_12 : decode cX6_readNumber 12 = .ok (.if_icmp .ge 24, 3) := by decide +kernel
theorem dX6_readNumber_15 : decode cX6_readNumber 15 = .ok (.iload_n 1, 1) := by decide +kernel
theorem dX6_readNumber_16 : decode cX6_readNumber 16 = .ok (.bipush 10, 2) := by decide +kernel
theorem dX6_readNumber_18 : decode cX6_readNumber 18 = .ok (.imul, 1) := by decide +kernel
theorem dX6_readNumber_19 : decode cX6_readNumber 19 = .ok (.aload_n 0, 1) := by decide +kernel
theorem dX6_readNumber_20 : decode cX6_readNumber 20 = .ok (.getfield 9, 3) := by decide +kernel
theorem dX6_readNumber_23 : decode cX6_readNumber 23 = .ok (.iload_n 2, 1) := by decide +kernel
theorem dX6_readNumber_24 : decode cX6_readNumber 24 = .ok (.baload, 1) := by decide +kernel
theorem dX6_readNumber_25 : decode cX6_readNumber 25 = .ok (.iadd, 1) := by decide +kernel
theorem dX6_readNumber_26 : decode cX6_readNumber 26 = .ok (.bipush 48, 2) := by decide +kernel
theorem dX6_readNumber_28 : decode cX6_readNumber 28 = .ok (.isub, 1) := by decide +kernel
theorem dX6_readNumber_29 : decode cX6_readNumber 29 = .ok (.istore_n 1, 1) := by decide +kernel
theorem dX6_readNumber_30 : decode cX6_readNumber 30 = .ok (.iinc 2 1, 3) := by decide +kernel
theorem dX6_readNumber_33 : decode cX6_readNumber 33 = .ok (.goto (-26), 3) := by decide +kernel
theorem dX6_readNumber_36 : decode cX6_readNumber 36 = .ok (.aload_n 0, 1) := by decide +kernel
theorem dX6_readNumber_37 : decode cX6_readNumber 37 = .ok (.iload_n 1, 1) := by decide +kernel
theorem dX6_readNumber_38 : decode cX6_readNumber 38 = .ok (.invokevirtual 102, 3) := by decide +kernel
theorem dX6_readNumber_41 : decode cX6_readNumber 41 = .ok (.aload_n 0, 1) := by decide +kernel
theorem dX6_readNumber_42 : decode cX6_readNumber 42 = .ok (.dup, 1) := by decide +kernel
theorem dX6_readNumber_43 : decode cX6_readNumber 43 = .ok (.getfield 31, 3) := by decide +kernel
theorem dX6_readNumber_46 : decode cX6_readNumber 46 = .ok (.iconst 1, 1) := by decide +kernel
theorem dX6_readNumber_47 : decode cX6_readNumber 47 = .ok (.iadd, 1) := by decide +kernel
theorem dX6_readNumber_48 : decode cX6_readNumber 48 = .ok (.putfield 31, 3) := by decide +kernel
theorem dX6_readNumber_51 : decode cX6_readNumber 51 = .ok (.aload_n 0, 1) := by decide +kernel
theorem dX6_readNumber_52 : decode cX6_readNumber 52 = .ok (.invokevirtual 47, 3) := by decide +kernel
theorem dX6_readNumber_55 : decode cX6_readNumber 55 = .ok (.iconst 1, 1) := by decide +kernel
theorem dX6_readNumber_56 : decode cX6_readNumber 56 = .ok (.ireturn, 1) := by decide +kernel
theorem dX6_readName_0 : decode cX6_readName 0 = .ok (.aload_n 0, 1) := by decide +kernel
theorem dX6_readName_1 : decode cX6_readName 1 = .ok (.getfield 28, 3) := by decide +kernel
theorem dX6_readName_4 : decode cX6_readName 4 = .ok (.ifCond .ne 8, 3) := by decide +kernel
theorem dX6_readName_7 : decode cX6_readName 7 = .ok (.ldc 134, 2) := by decide +kernel
theorem dX6_readName_9 : decode cX6_readName 9 = .ok (.goto 18, 3) := by decide +kernel
theorem dX6_readName_12 : decode cX6_readName 12 = .ok (.aload_n 0, 1) := by decide +kernel
theorem dX6_readName_13 : decode cX6_readName 13 = .ok (.getfield 28, 3) := by decide +kernel
theorem dX6_readName_16 : decode cX6_readName 16 = .ok (.iconst 1, 1) := by decide +kernel
theorem dX6_readName_17 : decode cX6_readName 17 = .ok (.if_icmp .ne 8, 3) := by decide +kernel
theorem dX6_readName_20 : decode cX6_readName 20 = .ok (.ldc 136, 2) := by decide +kernel
theorem dX6_readName_22 : decode cX6_readName 22 = .ok (.goto 5, 3) := by decide +kernel
theorem dX6_readName_25 : decode cX6_readName 25 = .ok (.ldc 138, 2) := by decide +kernel
theorem dX6_readName_27 : decode cX6_readName 27 = .ok (.astore_n 1, 1) := by decide +kernel
theorem dX6_readName_28 : decode cX6_readName 28 = .ok (.aload_n 0, 1) := by decide +kernel
theorem dX6_readName_29 : decode cX6_readName 29 = .ok (.getfield 25, 3) := by decide +kernel
theorem dX6_readName_32 : decode cX6_readName 32 = .ok (.aload_n 0, 1) := by decide +kernel
theorem dX6_readName_33 : decode cX6_readName 33 = .ok (.getfield 22, 3) := by decide +kernel
theorem dX6_readName_36 : decode cX6_readName 36 = .ok (.isub, 1) := by decide +kernel
theorem dX6_readName_37 : decode cX6_readName 37 = .ok (.iconst 1, 1) := by decide +kernel
theorem dX6_readName_38 : decode cX6_readName 38 = .ok (.if_icmp .ne 20, 3) := by decide +kernel
theorem dX6_readName_41 : decode cX6_readName 41 = .ok (.aload_n 1, 1) := by decide +kernel
theorem dX6_readName_42 : decode cX6_readName 42 = .ok (.aload_n 0, 1) := by decide +kernel
theorem dX6_readName_43 : decode cX6_readName 43 = .ok (.getfield 9, 3) := by decide +kernel
theorem dX6_readName_46 : decode cX6_readName 46 = .ok (.aload_n 0, 1) := by decide +kernel
theorem dX6_readName_47 : decode cX6_readName 47 = .ok (.getfield 22, 3) := by decide +kernel
theorem dX6_readName_50 : decode cX6_readName 50 = .ok (.baload, 1) := by decide +kernel
theorem dX6_readName_51 : decode cX6_readName 51 = .ok (.i2c, 1) := by decide +kernel
theorem dX6_readName_52 : decode cX6_readName 52 = .ok (.invokevirtual 140, 3) := by decide +kernel
theorem dX6_readName_55 : decode cX6_readName 55 = .ok (.goto 4, 3) := by decide +kernel
theorem dX6_readName_58 : decode cX6_readName 58 = .ok (.iconst (-1), 1) := by decide +kernel
theorem dX6_readName_59 : decode cX6_readName 59 = .ok (.istore_n 2, 1) := by decide +kernel
theorem dX6_readName_60 : decode cX6_readName 60 = .ok (.iload_n 2, 1) := by decide +kernel
theorem dX6_readName_61 : decode cX6_readName 61 = .ok (.ifCond .ge 5, 3) := by decide +kernel
theorem dX6_readName_64 : decode cX6_readName 64 = .ok (.iconst 0, 1) := by decide +kernel
theorem dX6_readName_65 : decode cX6_readName 65 = .ok (.ireturn, 1) := by decide +kernel
theorem dX6_readName_66 : decode cX6_readName 66 = .ok (.aload_n 0, 1) := by decide +kernel
theorem dX6_readName_67 : decode cX6_readName 67 = .ok (.iconst (-1), 1) := by decide +kernel
theorem dX6_readName_68 : decode cX6_readName 68 = .ok (.iload_n 2, 1) := by decide +kernel
theorem dX6_readName_69 : decode cX6_readName 69 = .ok (.isub, 1) := by decide +kernel
theorem dX6_readName_70 : decode cX6_readName 70 = .ok (.invokevirtual 102, 3) := by decide +kernel
theorem dX6_readName_73 : decode cX6_readName 73 = .ok (.aload_n 0, 1) := by decide +kernel
theorem dX6_readName_74 : decode cX6_readName 74 = .ok (.dup, 1) := by decide +kernel
theorem dX6_readName_75 : decode cX6_readName 75 = .ok (.getfield 31, 3) := by decide +kernel
theorem dX6_readName_78 : decode cX6_readName 78 = .ok (.iconst 1, 1) := by decide +kernel
theorem dX6_readName_79 : decode cX6_readName 79 = .ok (.iadd, 1) := by decide +kernel
theorem dX6_readName_80 : decode cX6_readName 80 = .ok (.putfield 31, 3) := by decide +kernel
theorem dX6_readName_83 : decode cX6_readName 83 = .ok (.aload_n 0, 1) := by decide +kernel
theorem dX6_readName_84 : decode cX6_readName 84 = .ok (.invokevirtual 47, 3) := by decide +kernel
theorem dX6_readName_87 : decode cX6_readName 87 = .ok (.iconst 1, 1) := by decide +kernel
theorem dX6_readName_88 : decode cX6_readName 88 = .ok (.ireturn, 1) := by decide +kernel
theorem dX7_init_0 : decode cX7_init 0 = .ok (.aload_n 0, 1) := by decide +kernel
theorem dX7_init_1 : decode cX7_init 1 = .ok (.invokespecial 3, 3) := by decide +kernel
theorem dX7_init_4 : decode cX7_init 4 = .ok (.aload_n 0, 1) := by decide +kernel
theorem dX7_init_5 : decode cX7_init 5 = .ok (.sipush 720, 3) := by decide +kernel
theorem dX7_init_8 : decode cX7_init 8 = .ok (.newarray .int, 2) := by decide +kernel
theorem dX7_init_10 : decode cX7_init 10 = .ok (.putfield 9, 3) := by decide +kernel
theorem dX7_init_13 : decode cX7_init 13 = .ok (.aload_n 0, 1) := by decide +kernel
theorem dX7_init_14 : decode cX7_init 14 = .ok (.sipush 720, 3) := by decide +kernel
theorem dX7_init_17 : decode cX7_init 17 = .ok (.newarray .int, 2) := by decide +kernel
theorem dX7_init_19 : decode cX7_init 19 = .ok (.putfield 15, 3) := by decide +kernel
theorem dX7_init_22 : decode cX7_init 22 = .ok (.aload_n 0, 1) := by decide +kernel
theorem dX7_init_23 : decode cX7_init 23 = .ok (.sipush 720, 3) := by decide +kernel
theorem dX7_init_26 : decode cX7_init 26 = .ok (.newarray .int, 2) := by decide +kernel
theorem dX7_init_28 : decode cX7_init 28 = .ok (.putfield 18, 3) := by decide +kernel
theorem dX7_init_31 : decode cX7_init 31 = .ok (.aload_n 0, 1) := by decide +kernel
theorem dX7_init_32 : decode cX7_init 32 = .ok (.sipush 720, 3) := by decide +kernel
theorem dX7_init_35 : decode cX7_init 35 = .ok (.newarray .int, 2) := by decide +kernel
theorem dX7_init_37 : decode cX7_init 37 = .ok (.putfield 21, 3) := by decide +kernel
theorem dX7_init_40 : decode cX7_init 40 = .ok (.aload_n 0, 1) := by decide +kernel
theorem dX7_init_41 : decode cX7_init 41 = .ok (.sipush 720, 3) := by decide +kernel
theorem dX7_init_44 : decode cX7_init 44 = .ok (.newarray .int, 2) := by decide +kernel
theorem dX7_init_46 : decode cX7_init 46 = .ok (.putfield 24, 3) := by decide +kernel
theorem dX7_init_49 : decode cX7_init 49 = .ok (.aload_n 0, 1) := by decide +kernel
theorem dX7_init_50 : decode cX7_init 50 = .ok (.iconst 0, 1) := by decide +kernel
theorem dX7_init_51 : decode cX7_init 51 = .ok (.putfield 27, 3) := by decide +kernel
theorem dX7_init_54 : decode cX7_init 54 = .ok (.return_, 1) := by decide +kernel
theorem dX7_shortest_0 : decode cX7_shortest 0 = .ok (.aload_n 0, 1) := by decide +kernel
theorem dX7_shortest_1 : decode cX7_shortest 1 = .ok (.getfield 9, 3) := by decide +kernel
theorem dX7_shortest_4 : decode cX7_shortest 4 = .ok (.iconst 0, 1) := by decide +kernel
theorem dX7_shortest_5 : decode cX7_shortest 5 = .ok (.invokestatic 31, 3) := by decide +kernel
theorem dX7_shortest_8 : decode cX7_shortest 8 = .ok (.iconst 1, 1) := by decide +kernel
theorem dX7_shortest_9 : decode cX7_shortest 9 = .ok (.istore_n 2, 1) := by decide +kernel
theorem dX7_shortest_10 : decode cX7_shortest 10 = .ok (.iload_n 2, 1) := by decide +kernel
theorem dX7_shortest_11 : decode cX7_shortest 11 = .ok (.bipush 60, 2) := by decide +kernel
theorem dX7_shortest_13 : decode cX7_shortest 13 = .ok (.if_icmp .gt 22, 3) := by decide +kernel
theorem dX7_shortest_16 : decode cX7_shortest 16 = .ok (.aload_n 0, 1) := by decide +kernel
theorem dX7_shortest_17 : decode cX7_shortest 17 = .ok (.aload_n 1, 1) := by decide +kernel
theorem dX7_shortest_18 : decode cX7_shortest 18 = .ok (.iload_n 2, 1) := by decide +kernel
theorem dX7_shortest_19 : decode cX7_shortest 19 = .ok (.iconst 1, 1) := by decide +kernel
theorem dX7_shortest_20 : decode cX7_shortest 20 = .ok (.isub, 1) := by decide +kernel
theorem dX7_shortest_21 : decode cX7_shortest 21 = .ok (.invokevirtual 37, 3) := by decide +kernel
theorem dX7_shortest_24 : decode cX7_shortest 24 = .ok (.ifCond .ne 5, 3) := by decide +kernel
theorem dX7_shortest_27 : decode cX7_shortest 27 = .ok (.iload_n 2, 1) := by decide +kernel
theorem dX7_shortest_28 : decode cX7_shortest 28 = .ok (.ireturn, 1) := by decide +kernel
theorem dX7_shortest_29 : decode cX7_shortest 29 = .ok (.iinc 2 1, 3) := by decide +kernel
theorem dX7_shortest_32 : decode cX7_shortest 32 = .ok (.goto (-22), 3) := by decide +kernel
theorem dX7_shortest_35 : decode cX7_shortest 35 = .ok (.ldc 41, 2) := by decide +kernel
theorem dX7_shortest_37 : decode cX7_shortest 37 = .ok (.ireturn, 1) := by decide +kernel
theorem dX7_splitLeavesDoubt_0 : decode cX7_splitLeavesDoubt 0 = .ok (.aload_n 0, 1) := by decide +kernel
theorem dX7_splitLeavesDoubt_1 : decode cX7_splitLeavesDoubt 1 = .ok (.getfield 15, 3) := by decide +kernel
theorem dX7_splitLeavesDoubt_4 : decode cX7_splitLeavesDoubt 4 = .ok (.iconst (-1), 1) := by decide +kernel
theorem dX7_splitLeavesDoubt_5 : decode cX7_splitLeavesDoubt 5 = .ok (.invokestatic 31, 3) := by decide +kernel
theorem dX7_splitLeavesDoubt_8 : decode cX7_splitLeavesDoubt 8 = .ok (.aload_n 0, 1) := by decide +kernel
theorem dX7_splitLeavesDoubt_9 : decode cX7_splitLeavesDoubt 9 = .ok (.iconst 0, 1) := by decide +kernel
theorem dX7_splitLeavesDoubt_10 : decode cX7_splitLeavesDoubt 10 = .ok (.putfield 27, 3) := by decide +kernel
theorem dX7_splitLeavesDoubt_13 : decode cX7_splitLeavesDoubt 13 = .ok (.iconst 0, 1) := by decide +kernel
theorem dX7_splitLeavesDoubt_14 : decode cX7_splitLeavesDoubt 14 = .ok (.istore_n 3, 1) := by decide +kernel
theorem dX7_splitLeavesDoubt_15 : decode cX7_splitLeavesDoubt 15 = .ok (.iconst 0, 1) := by decide +kernel
theorem dX7_splitLeavesDoubt_16 : decode cX7_splitLeavesDoubt 16 = .ok (.istore 4, 2) := by decide +kernel
theorem dX7_splitLeavesDoubt_18 : decode cX7_splitLeavesDoubt 18 = .ok (.iload 4, 2) := by decide +kernel
theorem dX7_splitLeavesDoubt_20 : decode cX7_splitLeavesDoubt 20 = .ok (.sipush 720, 3) := by decide +kernel
theorem dX7_splitLeavesDoubt_23 : decode cX7_splitLeavesDoubt 23 = .ok (.if_icmp .ge 73, 3) := by decide +kernel
theorem dX7_splitLeavesDoubt_26 : decode cX7_splitLeavesDoubt 26 = .ok (.aload_n 0, 1) := by decide +kernel
theorem dX7_splitLeavesDoubt_27 : decode cX7_splitLeavesDoubt 27 = .ok (.aload_n 0, 1) := by decide +kernel
theorem dX7_splitLeavesDoubt_28 : decode cX7_splitLeavesDoubt 28 = .ok (.getfield 9, 3) := by decide +kernel
theorem dX7_splitLeavesDoubt_31 : decode cX7_splitLeavesDoubt 31 = .ok (.iload 4, 2) := by decide +kernel
theorem dX7_splitLeavesDoubt_33 : decode cX7_splitLeavesDoubt 33 = .ok (.iaload, 1) := by decide +kernel
theorem dX7_splitLeavesDoubt_34 : decode cX7_splitLeavesDoubt 34 = .ok (.aload_n 1, 1) := by decide +kernel
theorem dX7_splitLeavesDoubt_35 : decode cX7_splitLeavesDoubt 35 = .ok (.iload 4, 2) := by decide +kernel
theorem dX7_splitLeavesDoubt_37 : decode cX7_splitLeavesDoubt 37 = .ok (.iload_n 2, 1) := by decide +kernel
theorem dX7_splitLeavesDoubt_38 : decode cX7_splitLeavesDoubt 38 = .ok (.isub, 1) := by decide +kernel
theorem dX7_splitLeavesDoubt_39 : decode cX7_splitLeavesDoubt 39 = .ok (.sipush 720, 3) := by decide +kernel
theorem dX7_splitLeavesDoubt_42 : decode cX7_splitLeavesDoubt 42 = .ok (.invokestatic 42, 3) := by decide +kernel
theorem dX7_splitLeavesDoubt_45 : decode cX7_splitLeavesDoubt 45 = .ok (.iaload, 1) := by decide +kernel
theorem dX7_splitLeavesDoubt_46 : decode cX7_splitLeavesDoubt 46 = .ok (.iload 4, 2) := by decide +kernel
theorem dX7_splitLeavesDoubt_48 : decode cX7_splitLeavesDoubt 48 = .ok (.bipush 60, 2) := by decide +kernel
theorem dX7_splitLeavesDoubt_50 : decode cX7_splitLeavesDoubt 50 = .ok (.idiv, 1) := by decide +kernel
theorem dX7_splitLeavesDoubt_51 : decode cX7_splitLeavesDoubt 51 = .ok (.invokevirtual 48, 3) := by decide +kernel
theorem dX7_splitLeavesDoubt_54 : decode cX7_splitLeavesDoubt 54 = .ok (.istore 5, 2) := by decide +kernel
theorem dX7_splitLeavesDoubt_56 : decode cX7_splitLeavesDoubt 56 = .ok (.iload_n 3, 1) := by decide +kernel
theorem dX7_splitLeavesDoubt_57 : decode cX7_splitLeavesDoubt 57 = .ok (.ifCond .ne 18, 3) := by decide +kernel
theorem dX7_splitLeavesDoubt_60 : decode cX7_splitLeavesDoubt 60 = .ok (.aload_n 0, 1) := by decide +kernel
theorem dX7_splitLeavesDoubt_61 : decode cX7_splitLeavesDoubt 61 = .ok (.getfield 24, 3) := by decide +kernel
theorem dX7_splitLeavesDoubt_64 : decode cX7_splitLeavesDoubt 64 = .ok (.iload 5, 2) := by decide +kernel
theorem dX7_splitLeavesDoubt_66 : decode cX7_splitLeavesDoubt 66 = .ok (.iaload, 1) := by decide +kernel
theorem dX7_splitLeavesDoubt_67 : decode cX7_splitLeavesDoubt 67 = .ok (.iload 4, 2) := by decide +kernel
theorem dX7_splitLeavesDoubt_69 : decode cX7_splitLeavesDoubt 69 = .ok (.bipush 60, 2) := by decide +kernel
theorem dX7_splitLeavesDoubt_71 : decode cX7_splitLeavesDoubt 71 = .ok (.idiv, 1) := by decide +kernel
theorem dX7_splitLeavesDoubt_72 : decode cX7_splitLeavesDoubt 72 = .ok (.if_icmp .eq 7, 3) := by decide +kernel
theorem dX7_splitLeavesDoubt_75 : decode cX7_splitLeavesDoubt 75 = .ok (.iconst 1, 1) := by decide +kernel
theorem dX7_splitLeavesDoubt_76 : decode cX7_splitLeavesDoubt 76 = .ok (.goto 4, 3) := by decide +kernel
theorem dX7_splitLeavesDoubt_79 : decode cX7_splitLeavesDoubt 79 = .ok (.iconst 0, 1) := by decide +kernel
theorem dX7_splitLeavesDoubt_80 : decode cX7_splitLeavesDoubt 80 = .ok (.istore_n 3, 1) := by decide +kernel
theorem dX7_splitLeavesDoubt_81 : decode cX7_splitLeavesDoubt 81 = .ok (.aload_n 0, 1) := by decide +kernel
theorem dX7_splitLeavesDoubt_82 : decode cX7_splitLeavesDoubt 82 = .ok (.getfield 9, 3) := by decide +kernel
theorem dX7_splitLeavesDoubt_85 : decode cX7_splitLeavesDoubt 85 = .ok (.iload 4, 2) := by decide +kernel
theorem dX7_splitLeavesDoubt_87 : decode cX7_splitLeavesDoubt 87 = .ok (.iload 5, 2) := by decide +kernel
theorem dX7_splitLeavesDoubt_89 : decode cX7_splitLeavesDoubt 89 = .ok (.iastore, 1) := by decide +kernel
theorem dX7_splitLeavesDoubt_90 : decode cX7_splitLeavesDoubt 90 = .ok (.iinc 4 1, 3) := by decide +kernel
theorem dX7_splitLeavesDoubt_93 : decode cX7_splitLeavesDoubt 93 = .ok (.goto (-75), 3) := by decide +kernel
theorem dX7_splitLeavesDoubt_96 : decode cX7_splitLeavesDoubt 96 = .ok (.iload_n 3, 1) := by decide +kernel
theorem dX7_splitLeavesDoubt_97 : decode cX7_splitLeavesDoubt 97 = .ok (.ireturn, 1) := by decide +kernel
theorem dX7_partOf_0 : decode cX7_partOf 0 = .ok (.aload_n 0, 1) := by decide +kernel
theorem dX7_partOf_1 : decode cX7_partOf 1 = .ok (.getfield 15, 3) := by decide +kernel
theorem dX7_partOf_4 : decode cX7_partOf 4 = .ok (.iload_n 1, 1) := by decide +kernel
theorem dX7_partOf_5 : decode cX7_partOf 5 = .ok (.iaload, 1) := by decide +kernel
theorem dX7_partOf_6 : decode cX7_partOf 6 = .ok (.istore 4, 2) := by decide +kernel
theorem dX7_partOf_8 : decode cX7_partOf 8 = .ok (.iconst 0, 1) := by decide +kernel
theorem dX7_partOf_9 : decode cX7_partOf 9 = .ok (.istore 5, 2) := by decide +kernel
theorem dX7_partOf_11 : decode cX7_partOf 11 = .ok (.iload 5, 2) := by decide +kernel
theorem dX7_partOf_13 : decode cX7_partOf 13 = .ok (.sipush 720, 3) := by decide +kernel
theorem dX7_partOf_16 : decode cX7_partOf 16 = .ok (.if_icmp .ge 37, 3) := by decide +kernel
theorem dX7_partOf_19 : decode cX7_partOf 19 = .ok (.iload 4, 2) := by decide +kernel
theorem dX7_partOf_21 : decode cX7_partOf 21 = .ok (.ifCond .lt 32, 3) := by decide +kernel
theorem dX7_partOf_24 : decode cX7_partOf 24 = .ok (.aload_n 0, 1) := by decide +kernel
theorem dX7_partOf_25 : decode cX7_partOf 25 = .ok (.getfield 21, 3) := by decide +kernel
theorem dX7_partOf_28 : decode cX7_partOf 28 = .ok (.iload 4, 2) := by decide +kernel
theorem dX7_partOf_30 : decode cX7_partOf 30 = .ok (.iaload, 1) := by decide +kernel
theorem dX7_partOf_31 : decode cX7_partOf 31 = .ok (.iload_n 2, 1) := by decide +kernel
theorem dX7_partOf_32 : decode cX7_partOf 32 = .ok (.if_icmp .ne 6, 3) := by decide +kernel
theorem dX7_partOf_35 : decode cX7_partOf 35 = .ok (.iload 4, 2) := by decide +kernel
theorem dX7_partOf_37 : decode cX7_partOf 37 = .ok (.ireturn, 1) := by decide +kernel
theorem dX7_partOf_38 : decode cX7_partOf 38 = .ok (.aload_n 0, 1) := by decide +kernel
theorem dX7_partOf_39 : decode cX7_partOf 39 = .ok (.getfield 18, 3) := by decide +kernel
theorem dX7_partOf_42 : decode cX7_partOf 42 = .ok (.iload 4, 2) := by decide +kernel
theorem dX7_partOf_44 : decode cX7_partOf 44 = .ok (.iaload, 1) := by decide +kernel
theorem dX7_partOf_45 : decode cX7_partOf 45 = .ok (.istore 4, 2) := by decide +kernel
theorem dX7_partOf_47 : decode cX7_partOf 47 = .ok (.iinc 5 1, 3) := by decide +kernel
theorem dX7_partOf_50 : decode cX7_partOf 50 = .ok (.goto (-39), 3) := by decide +kernel
theorem dX7_partOf_53 : decode cX7_partOf 53 = .ok (.aload_n 0, 1) := by decide +kernel
theorem dX7_partOf_54 : decode cX7_partOf 54 = .ok (.getfield 27, 3) := by decide +kernel
theorem dX7_partOf_57 : decode cX7_partOf 57 = .ok (.sipush 719, 3) := by decide +kernel
theorem dX7_partOf_60 : decode cX7_partOf 60 = .ok (.invokestatic 52, 3) := by decide +kernel
theorem dX7_partOf_63 : decode cX7_partOf 63 = .ok (.istore 5, 2) := by decide +kernel
theorem dX7_partOf_65 : decode cX7_partOf 65 = .ok (.aload_n 0, 1) := by decide +kernel
theorem dX7_partOf_66 : decode cX7_partOf 66 = .ok (.getfield 21, 3) := by decide +kernel
theorem dX7_partOf_69 : decode cX7_partOf 69 = .ok (.iload 5, 2) := by decide +kernel
theorem dX7_partOf_71 : decode cX7_partOf 71 = .ok (.iload_n 2, 1) := by decide +kernel
theorem dX7_partOf_72 : decode cX7_partOf 72 = .ok (.iastore, 1) := by decide +kernel
theorem dX7_partOf_73 : decode cX7_partOf 73 = .ok (.aload_n 0, 1) := by decide +kernel
theorem dX7_partOf_74 : decode cX7_partOf 74 = .ok (.getfield 24, 3) := by decide +kernel
theorem dX7_partOf_77 : decode cX7_partOf 77 = .ok (.iload 5, 2) := by decide +kernel
theorem dX7_partOf_79 : decode cX7_partOf 79 = .ok (.iload_n 3, 1) := by decide +kernel
theorem dX7_partOf_80 : decode cX7_partOf 80 = .ok (.iastore, 1) := by decide +kernel
theorem dX7_partOf_81 : decode cX7_partOf 81 = .ok (.aload_n 0, 1) := by decide +kernel
theorem dX7_partOf_82 : decode cX7_partOf 82 = .ok (.getfield 18, 3) := by decide +kernel
theorem dX7_partOf_85 : decode cX7_partOf 85 = .ok (.iload 5, 2) := by decide +kernel
theorem dX7_partOf_87 : decode cX7_partOf 87 = .ok (.aload_n 0, 1) := by decide +kernel
theorem dX7_partOf_88 : decode cX7_partOf 88 = .ok (.getfield 15, 3) := by decide +kernel
theorem dX7_partOf_91 : decode cX7_partOf 91 = .ok (.iload_n 1, 1) := by decide +kernel
theorem dX7_partOf_92 : decode cX7_partOf 92 = .ok (.iaload, 1) := by decide +kernel
theorem dX7_partOf_93 : decode cX7_partOf 93 = .ok (.iastore, 1) := by decide +kernel
theorem dX7_partOf_94 : decode cX7_partOf 94 = .ok (.aload_n 0, 1) := by decide +kernel
theorem dX7_partOf_95 : decode cX7_partOf 95 = .ok (.getfield 15, 3) := by decide +kernel
theorem dX7_partOf_98 : decode cX7_partOf 98 = .ok (.iload_n 1, 1) := by decide +kernel
theorem dX7_partOf_99 : decode cX7_partOf 99 = .ok (.iload 5, 2) := by decide +kernel
theorem dX7_partOf_101 : decode cX7_partOf 101 = .ok (.iastore, 1) := by decide +kernel
theorem dX7_partOf_102 : decode cX7_partOf 102 = .ok (.aload_n 0, 1) := by decide +kernel
theorem dX7_partOf_103 : decode cX7_partOf 103 = .ok (.dup, 1) := by decide +kernel
theorem dX7_partOf_104 : decode cX7_partOf 104 = .ok (.getfield 27, 3) := by decide +kernel
theorem dX7_partOf_107 : decode cX7_partOf 107 = .ok (.iconst 1, 1) := by decide +kernel
theorem dX7_partOf_108 : decode cX7_partOf 108 = .ok (.iadd, 1) := by decide +kernel
theorem dX7_partOf_109 : decode cX7_partOf 109 = .ok (.putfield 27, 3) := by decide +kernel
theorem dX7_partOf_112 : decode cX7_partOf 112 = .ok (.iload 5, 2) := by decide +kernel
theorem dX7_partOf_114 : decode cX7_partOf 114 = .ok (.ireturn, 1) := by decide +kernel
theorem dX8_init_0 : decode cX8_init 0 = .ok (.aload_n 0, 1) := by decide +kernel
theorem dX8_init_1 : decode cX8_init 1 = .ok (.invokespecial 3, 3) := by decide +kernel
theorem dX8_init_4 : decode cX8_init 4 = .ok (.aload_n 0, 1) := by decide +kernel
theorem dX8_init_5 : decode cX8_init 5 = .ok (.new 9, 3) := by decide +kernel
theorem dX8_init_8 : decode cX8_init 8 = .ok (.dup, 1) := by decide +kernel
theorem dX8_init_9 : decode cX8_init 9 = .ok (.invokespecial 11, 3) := by decide +kernel
theorem dX8_init_12 : decode cX8_init 12 = .ok (.putfield 12, 3) := by decide +kernel
theorem dX8_init_15 : decode cX8_init 15 = .ok (.aload_n 0, 1) := by decide +kernel
theorem dX8_init_16 : decode cX8_init 16 = .ok (.new 9, 3) := by decide +kernel
theorem dX8_init_19 : decode cX8_init 19 = .ok (.dup, 1) := by decide +kernel
theorem dX8_init_20 : decode cX8_init 20 = .ok (.invokespecial 11, 3) := by decide +kernel
theorem dX8_init_23 : decode cX8_init 23 = .ok (.putfield 16, 3) := by decide +kernel
theorem dX8_init_26 : decode cX8_init 26 = .ok (.aload_n 0, 1) := by decide +kernel
theorem dX8_init_27 : decode cX8_init 27 = .ok (.new 9, 3) := by decide +kernel
theorem dX8_init_30 : decode cX8_init 30 = .ok (.dup, 1) := by decide +kernel
theorem dX8_init_31 : decode cX8_init 31 = .ok (.invokespecial 11, 3) := by decide +kernel
theorem dX8_init_34 : decode cX8_init 34 = .ok (.putfield 19, 3) := by decide +kernel
theorem dX8_init_37 : decode cX8_init 37 = .ok (.aload_n 0, 1) := by decide +kernel
theorem dX8_init_38 : decode cX8_init 38 = .ok (.iconst 0, 1) := by decide +kernel
theorem dX8_init_39 : decode cX8_init 39 = .ok (.putfield 22, 3) := by decide +kernel
theorem dX8_init_42 : decode cX8_init 42 = .ok (.aload_n 0, 1) := by decide +kernel
theorem dX8_init_43 : decode cX8_init 43 = .ok (.new 26, 3) := by decide +kernel
theorem dX8_init_46 : decode cX8_init 46 = .ok (.dup, 1) := by decide +kernel
theorem dX8_init_47 : decode cX8_init 47 = .ok (.invokespecial 28, 3) := by decide +kernel
theorem dX8_init_50 : decode cX8_init 50 = .ok (.putfield 29, 3) := by decide +kernel
theorem dX8_init_53 : decode cX8_init 53 = .ok (.aload_n 0, 1) := by decide +kernel
theorem dX8_init_54 : decode cX8_init 54 = .ok (.new 33, 3) := by decide +kernel
theorem dX8_init_57 : decode cX8_init 57 = .ok (.dup, 1) := by decide +kernel
theorem dX8_init_58 : decode cX8_init 58 = .ok (.invokespecial 35, 3) := by decide +kernel
theorem dX8_init_61 : decode cX8_init 61 = .ok (.putfield 36, 3) := by decide +kernel
theorem dX8_init_64 : decode cX8_init 64 = .ok (.aload_n 0, 1) := by decide +kernel
theorem dX8_init_65 : decode cX8_init 65 = .ok (.new 40, 3) := by decide +kernel
theorem dX8_init_68 : decode cX8_init 68 = .ok (.dup, 1) := by decide +kernel
theorem dX8_init_69 : decode cX8_init 69 = .ok (.invokespecial 42, 3) := by decide +kernel
theorem dX8_init_72 : decode cX8_init 72 = .ok (.putfield 43, 3) := by decide +kernel
theorem dX8_init_75 : decode cX8_init 75 = .ok (.aload_n 0, 1) := by decide +kernel
theorem dX8_init_76 : decode cX8_init 76 = .ok (.bipush 96, 2) := by decide +kernel
theorem dX8_init_78 : decode cX8_init 78 = .ok (.newarray .byte, 2) := by decide +kernel
theorem dX8_init_80 : decode cX8_init 80 = .ok (.putfield 47, 3) := by decide +kernel
theorem dX8_init_83 : decode cX8_init 83 = .ok (.aload_n 0, 1) := by decide +kernel
theorem dX8_init_84 : decode cX8_init 84 = .ok (.iconst 0, 1) := by decide +kernel
theorem dX8_init_85 : decode cX8_init 85 = .ok (.putfield 51, 3) := by decide +kernel
theorem dX8_init_88 : decode cX8_init 88 = .ok (.aload_n 0, 1) := by decide +kernel
theorem dX8_init_89 : decode cX8_init 89 = .ok (.bipush 60, 2) := by decide +kernel
theorem dX8_init_91 : decode cX8_init 91 = .ok (.newarray .int, 2) := by decide +kernel
theorem dX8_init_93 : decode cX8_init 93 = .ok (.putfield 55, 3) := by decide +kernel
theorem dX8_init_96 : decode cX8_init 96 = .ok (.aload_n 0, 1) := by decide +kernel
theorem dX8_init_97 : decode cX8_init 97 = .ok (.iconst 0, 1) := by decide +kernel
theorem dX8_init_98 : decode cX8_init 98 = .ok (.putfield 59, 3) := by decide +kernel
theorem dX8_init_101 : decode cX8_init 101 = .ok (.aload_n 0, 1) := by decide +kernel
theorem dX8_init_102 : decode cX8_init 102 = .ok (.iconst 4, 1) := by decide +kernel
theorem dX8_init_103 : decode cX8_init 103 = .ok (.anewarray 62, 3) := by decide +kernel
theorem dX8_init_106 : decode cX8_init 106 = .ok (.putfield 64, 3) := by decide +kernel
theorem dX8_init_109 : decode cX8_init 109 = .ok (.aload_n 0, 1) := by decide +kernel
theorem dX8_init_110 : decode cX8_init 110 = .ok (.iconst 5, 1) := by decide +kernel
theorem dX8_init_111 : decode cX8_init 111 = .ok (.anewarray 68, 3) := by decide +kernel
theorem dX8_init_114 : decode cX8_init 114 = .ok (.putfield 70, 3) := by decide +kernel
theorem dX8_init_117 : decode cX8_init 117 = .ok (.iconst 0, 1) := by decide +kernel
theorem dX8_init_118 : decode cX8_init 118 = .ok (.istore_n 1, 1) := by decide +kernel
theorem dX8_init_119 : decode cX8_init 119 = .ok (.iload_n 1, 1) := by decide +kernel
theorem dX8_init_120 : decode cX8_init 120 = .ok (.iconst 4, 1) := by decide +kernel
theorem dX8_init_121 : decode cX8_init 121 = .ok (.if_icmp .ge 22, 3) := by decide +kernel
theorem dX8_init_124 : decode cX8_init 124 = .ok (.aload_n 0, 1) := by decide +kernel
theorem dX8_init_125 : decode cX8_init 125 = .ok (.getfield 64, 3) := by decide +kernel
theorem dX8_init_128 : decode cX8_init 128 = .ok (.iload_n 1, 1) := by decide +kernel
theorem dX8_init_129 : decode cX8_init 129 = .ok (.new 62, 3) := by decide +kernel
theorem dX8_init_132 : decode cX8_init 132 = .ok (.dup, 1) := by decide +kernel
theorem dX8_init_133 : decode cX8_init 133 = .ok (.invokespecial 74, 3) := by decide +kernel
theorem dX8_init_136 : decode cX8_init 136 = .ok (.aastore, 1) := by decide +kernel
theorem dX8_init_137 : decode cX8_init 137 = .ok (.iinc 1 1, 3) := by decide +kernel
theorem dX8_init_140 : decode cX8_init 140 = .ok (.goto (-21), 3) := by decide +kernel
theorem dX8_init_143 : decode cX8_init 143 = .ok (.iconst 0, 1) := by decide +kernel
theorem dX8_init_144 : decode cX8_init 144 = .ok (.istore_n 1, 1) := by decide +kernel
theorem dX8_init_145 : decode cX8_init 145 = .ok (.iload_n 1, 1) := by decide +kernel
theorem dX8_init_146 : decode cX8_init 146 = .ok (.iconst 5, 1) := by decide +kernel
theorem dX8_init_147 : decode cX8_init 147 = .ok (.if_icmp .ge 22, 3) := by decide +kernel
theorem dX8_init_150 : decode cX8_init 150 = .ok (.aload_n 0, 1) := by decide +kernel
theorem dX8_init_151 : decode cX8_init 151 = .ok (.getfield 70, 3) := by decide +kernel
theorem dX8_init_154 : decode cX8_init 154 = .ok (.iload_n 1, 1) := by decide +kernel
theorem dX8_init_155 : decode cX8_init 155 = .ok (.new 68, 3) := by decide +kernel
theorem dX8_init_158 : decode cX8_init 158 = .ok (.dup, 1) := by decide +kernel
theorem dX8_init_159 : decode cX8_init 159 = .ok (.invokespecial 75, 3) := by decide +kernel
theorem dX8_init_162 : decode cX8_init 162 = .ok (.aastore, 1) := by decide +kernel
theorem dX8_init_163 : decode cX8_init 163 = .ok (.iinc 1 1, 3) := by decide +kernel
theorem dX8_init_166 : decode cX8_init 166 = .ok (.goto (-21), 3) := by decide +kernel
theorem dX8_init_169 : decode cX8_init 169 = .ok (.return_, 1) := by decide +kernel
theorem dX8_clock_0 : decode cX8_clock 0 = .ok (.iload_n 1, 1) := by decide +kernel
theorem dX8_clock_1 : decode cX8_clock 1 = .ok (.bipush 6, 2) := by decide +kernel
theorem dX8_clock_3 : decode cX8_clock 3 = .ok (.invokestatic 76, 3) := by decide +kernel
theorem dX8_clock_6 : decode cX8_clock 6 = .ok (.ifCond .eq 21, 3) := by decide +kernel
theorem dX8_clock_9 : decode cX8_clock 9 = .ok (.iload_n 2, 1) := by decide +kernel
theorem dX8_clock_10 : decode cX8_clock 10 = .ok (.bipush 60, 2) := by decide +kernel
theorem dX8_clock_12 : decode cX8_clock 12 = .ok (.invokestatic 76, 3) := by decide +kernel
theorem dX8_clock_15 : decode cX8_clock 15 = .ok (.ifCond .eq 12, 3) := by decide +kernel
theorem dX8_clock_18 : decode cX8_clock 18 = .ok (.iload_n 3, 1) := by decide +kernel
theorem dX8_clock_19 : decode cX8_clock 19 = .ok (.bipush 10, 2) := by decide +kernel
theorem dX8_clock_21 : decode cX8_clock 21 = .ok (.invokestatic 76, 3) := by decide +kernel
theorem dX8_clock_24 : decode cX8_clock 24 = .ok (.ifCond .ne 6, 3) := by decide +kernel
theorem dX8_clock_27 : decode cX8_clock 27 = .ok (.ldc 80, 2) := by decide +kernel
theorem dX8_clock_29 : decode cX8_clock 29 = .ok (.ireturn, 1) := by decide +kernel
theorem dX8_clock_30 : decode cX8_clock 30 = .ok (.aload_n 0, 1) := by decide +kernel
theorem dX8_clock_31 : decode cX8_clock 31 = .ok (.getfield 12, 3) := by decide +kernel
theorem dX8_clock_34 : decode cX8_clock 34 = .ok (.getfield 81, 3) := by decide +kernel
theorem dX8_clock_37 : decode cX8_clock 37 = .ok (.bipush 6, 2) := by decide +kernel
theorem dX8_clock_39 : decode cX8_clock 39 = .ok (.if_icmp .lt 6, 3) := by decide +kernel
theorem dX8_clock_42 : decode cX8_clock 42 = .ok (.ldc 84, 2) := by decide +kernel
theorem dX8_clock_44 : decode cX8_clock 44 = .ok (.ireturn, 1) := by decide +kernel
theorem dX8_clock_45 : decode cX8_clock 45 = .ok (.aload_n 0, 1) := by decide +kernel
theorem dX8_clock_46 : decode cX8_clock 46 = .ok (.getfield 12, 3) := by decide +kernel
theorem dX8_clock_49 : decode cX8_clock 49 = .ok (.iload_n 1, 1) := by decide +kernel
theorem dX8_clock_50 : decode cX8_clock 50 = .ok (.iload_n 2, 1) := by decide +kernel
theorem dX8_clock_51 : decode cX8_clock 51 = .ok (.iload_n 3, 1) := by decide +kernel
theorem dX8_clock_52 : decode cX8_clock 52 = .ok (.invokevirtual 85, 3) := by decide +kernel
theorem dX8_clock_55 : decode cX8_clock 55 = .ok (.aload_n 0, 1) := by decide +kernel
theorem dX8_clock_56 : decode cX8_clock 56 = .ok (.getfield 12, 3) := by decide +kernel
theorem dX8_clock_59 : decode cX8_clock 59 = .ok (.getfield 81, 3) := by decide +kernel
theorem dX8_clock_62 : decode cX8_clock 62 = .ok (.iconst 1, 1) := by decide +kernel
theorem dX8_clock_63 : decode cX8_clock 63 = .ok (.isub, 1) := by decide +kernel
theorem dX8_clock_64 : decode cX8_clock 64 = .ok (.ireturn, 1) := by decide +kernel
theorem dX8_told_0 : decode cX8_told 0 = .ok (.aload_n 0, 1) := by decide +kernel
theorem dX8_told_1 : decode cX8_told 1 = .ok (.getfield 12, 3) := by decide +kernel
theorem dX8_told_4 : decode cX8_told 4 = .ok (.iload_n 1, 1) := by decide +kernel
theorem dX8_told_5 : decode cX8_told 5 = .ok (.invokevirtual 89, 3) := by decide +kernel
theorem dX8_told_8 : decode cX8_told 8 = .ok (.ifCond .ne 6, 3) := by decide +kernel
theorem dX8_told_11 : decode cX8_told 11 = .ok (.ldc 80, 2) := by decide +kernel
theorem dX8_told_13 : decode cX8_told 13 = .ok (.ireturn, 1) := by decide +kernel
theorem dX8_told_14 : decode cX8_told 14 = .ok (.aload_n 0, 1) := by decide +kernel
theorem dX8_told_15 : decode cX8_told 15 = .ok (.getfield 12, 3) := by decide +kernel
theorem dX8_told_18 : decode cX8_told 18 = .ok (.getfield 93, 3) := by decide +kernel
theorem dX8_told_21 : decode cX8_told 21 = .ok (.iload_n 1, 1) := by decide +kernel
theorem dX8_told_22 : decode cX8_told 22 = .ok (.aaload, 1) := by decide +kernel
theorem dX8_told_23 : decode cX8_told 23 = .ok (.astore_n 3, 1) := by decide +kernel
theorem dX8_told_24 : decode cX8_told 24 = .ok (.iload_n 2, 1) := by decide +kernel
theorem dX8_told_25 : decode cX8_told 25 = .ok (.tableswitch 84 0 5 #[39, 44, 49, 54, 70, 79], 39) := by decide +kernel
theorem dX8_told_64 : decode cX8_told 64 = .ok (.aload_n 3, 1) := by decide +kernel
theorem dX8_told_65 : decode cX8_told 65 = .ok (.getfield 97, 3) := by decide +kernel
theorem dX8_told_68 : decode cX8_told 68 = .ok (.ireturn, 1) := by decide +kernel
theorem dX8_told_69 : decode cX8_told 69 = .ok (.aload_n 3, 1) := by decide +kernel
theorem dX8_told_70 : decode cX8_told 70 = .ok (.getfield 102, 3) := by decide +kernel
theorem dX8_told_73 : decode cX8_told 73 = .ok (.ireturn, 1) := by decide +kernel
theorem dX8_told_74 : decode cX8_told 74 = .ok (.aload_n 3, 1) := by decide +kernel
theorem dX8_told_75 : decode cX8_told 75 = .ok (.getfield 105, 3) := by decide +kernel
theorem dX8_told_78 : decode cX8_told 78 = .ok (.ireturn, 1) := by decide +kernel
theorem dX8_told_79 : decode cX8_told 79 = .ok (.aload_n 0, 1) := by decide +kernel
theorem dX8_told_80 : decode cX8_told 80 = .ok (.getfield 12, 3) := by decide +kernel
theorem dX8_told_83 : decode cX8_told 83 = .ok (.aload_n 3, 1) := by decide +kernel
theorem dX8_told_84 : decode cX8_told 84 = .ok (.aload_n 0, 1) := by decide +kernel
theorem dX8_told_85 : decode cX8_told 85 = .ok (.getfield 12, 3) := by decide +kernel
theorem dX8_told_88 : decode cX8_told 88 = .ok (.invokevirtual 108, 3) := by decide +kernel
theorem dX8_told_91 : decode cX8_told 91 = .ok (.invokevirtual 112, 3) := by decide +kernel
theorem dX8_told_94 : decode cX8_told 94 = .ok (.ireturn, 1) := by decide +kernel
theorem dX8_told_95 : decode cX8_told 95 = .ok (.aload_n 0, 1) := by decide +kernel
theorem dX8_told_96 : decode cX8_told 96 = .ok (.getfield 12, 3) := by decide +kernel
theorem dX8_told_99 : decode cX8_told 99 = .ok (.aload_n 3, 1) := by decide +kernel
theorem dX8_told_100 : decode cX8_told 100 = .ok (.invokevirtual 116, 3) := by decide +kernel
theorem dX8_told_103 : decode cX8_told 103 = .ok (.ireturn, 1) := by decide +kernel
theorem dX8_told_104 : decode cX8_told 104 = .ok (.aload_n 3, 1) := by decide +kernel
theorem dX8_told_105 : decode cX8_told 105 = .ok (.invokevirtual 120, 3) := by decide +kernel
theorem dX8_told_108 : decode cX8_told 108 = .ok (.ireturn, 1) := by decide +kernel
theorem dX8_told_109 : decode cX8_told 109 = .ok (.ldc 80, 2) := by decide +kernel
theorem dX8_told_111 : decode cX8_told 111 = .ok (.ireturn, 1) := by decide +kernel
theorem dX8_as_0 : decode cX8_as 0 = .ok (.aload_n 0, 1) := by decide +kernel
theorem dX8_as_1 : decode cX8_as 1 = .ok (.getfield 12, 3) := by decide +kernel
theorem dX8_as_4 : decode cX8_as 4 = .ok (.iload_n 1, 1) := by decide +kernel
theorem dX8_as_5 : decode cX8_as 5 = .ok (.invokevirtual 89, 3) := by decide +kernel
theorem dX8_as_8 : decode cX8_as 8 = .ok (.ifCond .eq 12, 3) := by decide +kernel
theorem dX8_as_11 : decode cX8_as 11 = .ok (.iload_n 2, 1) := by decide +kernel
theorem dX8_as_12 : decode cX8_as 12 = .ok (.bipush 6, 2) := by decide +kernel
theorem dX8_as_14 : decode cX8_as 14 = .ok (.invokestatic 76, 3) := by decide +kernel
theorem dX8_as_17 : decode cX8_as 17 = .ok (.ifCond .ne 6, 3) := by decide +kernel
theorem dX8_as_20 : decode cX8_as 20 = .ok (.ldc 80, 2) := by decide +kernel
theorem dX8_as_22 : decode cX8_as 22 = .ok (.ireturn, 1) := by decide +kernel
theorem dX8_as_23 : decode cX8_as 23 = .ok (.aload_n 0, 1) := by decide +kernel
theorem dX8_as_24 : decode cX8_as 24 = .ok (.getfield 12, 3) := by decide +kernel
theorem dX8_as_27 : decode cX8_as 27 = .ok (.getfield 93, 3) := by decide +kernel
theorem dX8_as_30 : decode cX8_as 30 = .ok (.iload_n 1, 1) := by decide +kernel
theorem dX8_as_31 : decode cX8_as 31 = .ok (.aaload, 1) := by decide +kernel
theorem dX8_as_32 : decode cX8_as 32 = .ok (.astore_n 3, 1) := by decide +kernel
theorem dX8_as_33 : decode cX8_as 33 = .ok (.aload_n 3, 1) := by decide +kernel
theorem dX8_as_34 : decode cX8_as 34 = .ok (.getfield 97, 3) := by decide +kernel
theorem dX8_as_37 : decode cX8_as 37 = .ok (.iload_n 2, 1) := by decide +kernel
theorem dX8_as_38 : decode cX8_as 38 = .ok (.invokestatic 123, 3) := by decide +kernel
theorem dX8_as_41 : decode cX8_as 41 = .ok (.ifCond .eq 10, 3) := by decide +kernel
theorem dX8_as_44 : decode cX8_as 44 = .ok (.aload_n 3, 1) := by decide +kernel
theorem dX8_as_45 : decode cX8_as 45 = .ok (.getfield 105, 3) := by decide +kernel
theorem dX8_as_48 : decode cX8_as 48 = .ok (.goto 5, 3) := by decide +kernel
theorem dX8_as_51 : decode cX8_as 51 = .ok (.ldc 126, 2) := by decide +kernel
theorem dX8_as_53 : decode cX8_as 53 = .ok (.ireturn, 1) := by decide +kernel
theorem dX8_turns_0 : decode cX8_turns 0 = .ok (.aload_n 0, 1) := by decide +kernel
theorem dX8_turns_1 : decode cX8_turns 1 = .ok (.getfield 12, 3) := by decide +kernel
theorem dX8_turns_4 : decode cX8_turns 4 = .ok (.iload_n 1, 1) := by decide +kernel
theorem dX8_turns_5 : decode cX8_turns 5 = .ok (.invokevirtual 89, 3) := by decide +kernel
theorem dX8_turns_8 : decode cX8_turns 8 = .ok (.ifCond .eq 12, 3) := by decide +kernel
theorem dX8_turns_11 : decode cX8_turns 11 = .ok (.iload_n 2, 1) := by decide +kernel
theorem dX8_turns_12 : decode cX8_turns 12 = .ok (.bipush 6, 2) := by decide +kernel
theorem dX8_turns_14 : decode cX8_turns 14 = .ok (.invokestatic 76, 3) := by decide +kernel
theorem dX8_turns_17 : decode cX8_turns 17 = .ok (.ifCond .ne 6, 3) := by decide +kernel
theorem dX8_turns_20 : decode cX8_turns 20 = .ok (.ldc 80, 2) := by decide +kernel
theorem dX8_turns_22 : decode cX8_turns 22 = .ok (.ireturn, 1) := by decide +kernel
theorem dX8_turns_23 : decode cX8_turns 23 = .ok (.aload_n 0, 1) := by decide +kernel
theorem dX8_turns_24 : decode cX8_turns 24 = .ok (.getfield 12, 3) := by decide +kernel
theorem dX8_turns_27 : decode cX8_turns 27 = .ok (.getfield 93, 3) := by decide +kernel
theorem dX8_turns_30 : decode cX8_turns 30 = .ok (.iload_n 1, 1) := by decide +kernel
theorem dX8_turns_31 : decode cX8_turns 31 = .ok (.aaload, 1) := by decide +kernel
theorem dX8_turns_32 : decode cX8_turns 32 = .ok (.astore_n 3, 1) := by decide +kernel
theorem dX8_turns_33 : decode cX8_turns 33 = .ok (.aload_n 3, 1) := by decide +kernel
theorem dX8_turns_34 : decode cX8_turns 34 = .ok (.getfield 97, 3) := by decide +kernel
theorem dX8_turns_37 : decode cX8_turns 37 = .ok (.istore 4, 2) := by decide +kernel
theorem dX8_turns_39 : decode cX8_turns 39 = .ok (.aload_n 3, 1) := by decide +kernel
theorem dX8_turns_40 : decode cX8_turns 40 = .ok (.iload_n 2, 1) := by decide +kernel
theorem dX8_turns_41 : decode cX8_turns 41 = .ok (.putfield 97, 3) := by decide +kernel
theorem dX8_turns_44 : decode cX8_turns 44 = .ok (.iload 4, 2) := by decide +kernel
theorem dX8_turns_46 : decode cX8_turns 46 = .ok (.ireturn, 1) := by decide +kernel
theorem dX8_set_0 : decode cX8_set 0 = .ok (.aload_n 0, 1) := by decide +kernel
theorem dX8_set_1 : decode cX8_set 1 = .ok (.getfield 12, 3) := by decide +kernel
theorem dX8_set_4 : decode cX8_set 4 = .ok (.iload_n 1, 1) := by decide +kernel
theorem dX8_set_5 : decode cX8_set 5 = .ok (.invokevirtual 89, 3) := by decide +kernel
theorem dX8_set_8 : decode cX8_set 8 = .ok (.ifCond .ne 6, 3) := by decide +kernel
theorem dX8_set_11 : decode cX8_set 11 = .ok (.ldc 80, 2) := by decide +kernel
theorem dX8_set_13 : decode cX8_set 13 = .ok (.ireturn, 1) := by decide +kernel
theorem dX8_set_14 : decode cX8_set 14 = .ok (.aload_n 0, 1) := by decide +kernel
theorem dX8_set_15 : decode cX8_set 15 = .ok (.getfield 12, 3) := by decide +kernel
theorem dX8_set_18 : decode cX8_set 18 = .ok (.getfield 93, 3) := by decide +kernel
theorem dX8_set_21 : decode cX8_set 21 = .ok (.iload_n 1, 1) := by decide +kernel
theorem dX8_set_22 : decode cX8_set 22 = .ok (.aaload, 1) := by decide +kernel
theorem dX8_set_23 : decode cX8_set 23 = .ok (.astore 4, 2) := by decide +kernel
theorem dX8_set_25 : decode cX8_set 25 = .ok (.iload_n 2, 1) := by decide +kernel
theorem dX8_set_26 : decode cX8_set 26 = .ok (.iconst 1, 1) := by decide +kernel
theorem dX8_set_27 : decode cX8_set 27 = .ok (.if_icmp .ne 28, 3) := by decide +kernel
theorem dX8_set_30 : decode cX8_set 30 = .ok (.iload_n 3, 1) := by decide +kernel
theorem dX8_set_31 : decode cX8_set 31 = .ok (.bipush 60, 2) := by decide +kernel
theorem dX8_set_33 : decode cX8_set 33 = .ok (.invokestatic 76, 3) := by decide +kernel
theorem dX8_set_36 : decode cX8_set 36 = .ok (.ifCond .eq 19, 3) := by decide +kernel
theorem dX8_set_39 : decode cX8_set 39 = .ok (.aload 4, 2) := by decide +kernel
theorem dX8_set_41 : decode cX8_set 41 = .ok (.getfield 102, 3) := by decide +kernel
theorem dX8_set_44 : decode cX8_set 44 = .ok (.istore 5, 2) := by decide +kernel
theorem dX8_set_46 : decode cX8_set 46 = .ok (.aload 4, 2) := by decide +kernel
theorem dX8_set_48 : decode cX8_set 48 = .ok (.iload_n 3, 1) := by decide +kernel
theorem dX8_set_49 : decode cX8_set 49 = .ok (.putfield 102, 3) := by decide +kernel
theorem dX8_set_52 : decode cX8_set 52 = .ok (.iload 5, 2) := by decide +kernel
theorem dX8_set_54 : decode cX8_set 54 = .ok (.ireturn, 1) := by decide +kernel
theorem dX8_set_55 : decode cX8_set 55 = .ok (.iload_n 2, 1) := by decide +kernel
theorem dX8_set_56 : decode cX8_set 56 = .ok (.iconst 2, 1) := by decide +kernel
theorem dX8_set_57 : decode cX8_set 57 = .ok (.if_icmp .ne 28, 3) := by decide +kernel
theorem dX8_set_60 : decode cX8_set 60 = .ok (.iload_n 3, 1) := by decide +kernel
theorem dX8_set_61 : decode cX8_set 61 = .ok (.bipush 10, 2) := by decide +kernel
theorem dX8_set_63 : decode cX8_set 63 = .ok (.invokestatic 76, 3) := by decide +kernel
theorem dX8_set_66 : decode cX8_set 66 = .ok (.ifCond .eq 19, 3) := by decide +kernel
theorem dX8_set_69 : decode cX8_set 69 = .ok (.aload 4, 2) := by decide +kernel
theorem dX8_set_71 : decode cX8_set 71 = .ok (.getfield 105, 3) := by decide +kernel
theorem dX8_set_74 : decode cX8_set 74 = .ok (.istore 5, 2) := by decide +kernel
theorem dX8_set_76 : decode cX8_set 76 = .ok (.aload 4, 2) := by decide +kernel
theorem dX8_set_78 : decode cX8_set 78 = .ok (.iload_n 3, 1) := by decide +kernel
theorem dX8_set_79 : decode cX8_set 79 = .ok (.putfield 105, 3) := by decide +kernel
theorem dX8_set_82 : decode cX8_set 82 = .ok (.iload 5, 2) := by decide +kernel
theorem dX8_set_84 : decode cX8_set 84 = .ok (.ireturn, 1) := by decide +kernel
theorem dX8_set_85 : decode cX8_set 85 = .ok (.ldc 80, 2) := by decide +kernel
theorem dX8_set_87 : decode cX8_set 87 = .ok (.ireturn, 1) := by decide +kernel
theorem dX8_strokes_0 : decode cX8_strokes 0 = .ok (.aload_n 0, 1) := by decide +kernel
theorem dX8_strokes_1 : decode cX8_strokes 1 = .ok (.getfield 12, 3) := by decide +kernel
theorem dX8_strokes_4 : decode cX8_strokes 4 = .ok (.iload_n 1, 1) := by decide +kernel
theorem dX8_strokes_5 : decode cX8_strokes 5 = .ok (.invokevirtual 89, 3) := by decide +kernel
theorem dX8_strokes_8 : decode cX8_strokes 8 = .ok (.ifCond .eq 13, 3) := by decide +kernel
theorem dX8_strokes_11 : decode cX8_strokes 11 = .ok (.iload_n 2, 1) := by decide +kernel
theorem dX8_strokes_12 : decode cX8_strokes 12 = .ok (.sipush 720, 3) := by decide +kernel
theorem dX8_strokes_15 : decode cX8_strokes 15 = .ok (.invokestatic 76, 3) := by decide +kernel
theorem dX8_strokes_18 : decode cX8_strokes 18 = .ok (.ifCond .ne 6, 3) := by decide +kernel
theorem dX8_strokes_21 : decode cX8_strokes 21 = .ok (.ldc 80, 2) := by decide +kernel
theorem dX8_strokes_23 : decode cX8_strokes 23 = .ok (.ireturn, 1) := by decide +kernel
theorem dX8_strokes_24 : decode cX8_strokes 24 = .ok (.aload_n 0, 1) := by decide +kernel
theorem dX8_strokes_25 : decode cX8_strokes 25 = .ok (.getfield 12, 3) := by decide +kernel
theorem dX8_strokes_28 : decode cX8_strokes 28 = .ok (.aload_n 0, 1) := by decide +kernel
theorem dX8_strokes_29 : decode cX8_strokes 29 = .ok (.getfield 12, 3) := by decide +kernel
theorem dX8_strokes_32 : decode cX8_strokes 32 = .ok (.getfield 93, 3) := by decide +kernel
theorem dX8_strokes_35 : decode cX8_strokes 35 = .ok (.iload_n 1, 1) := by decide +kernel
theorem dX8_strokes_36 : decode cX8_strokes 36 = .ok (.aaload, 1) := by decide +kernel
theorem dX8_strokes_37 : decode cX8_strokes 37 = .ok (.iload_n 2, 1) := by decide +kernel
theorem dX8_strokes_38 : decode cX8_strokes 38 = .ok (.invokevirtual 112, 3) := by decide +kernel
theorem dX8_strokes_41 : decode cX8_strokes 41 = .ok (.ireturn, 1) := by decide +kernel
theorem dX8_total_0 : decode cX8_total 0 = .ok (.iload_n 1, 1) := by decide +kernel
theorem dX8_total_1 : decode cX8_total 1 = .ok (.sipush 720, 3) := by decide +kernel
theorem dX8_total_4 : decode cX8_total 4 = .ok (.invokestatic 76, 3) := by decide +kernel
theorem dX8_total_7 : decode cX8_total 7 = .ok (.ifCond .eq 14, 3) := by decide +kernel
theorem dX8_total_10 : decode cX8_total 10 = .ok (.aload_n 0, 1) := by decide +kernel
theorem dX8_total_11 : decode cX8_total 11 = .ok (.getfield 12, 3) := by decide +kernel
theorem dX8_total_14 : decode cX8_total 14 = .ok (.iload_n 1, 1) := by decide +kernel
theorem dX8_total_15 : decode cX8_total 15 = .ok (.invokevirtual 127, 3) := by decide +kernel
theorem dX8_total_18 : decode cX8_total 18 = .ok (.goto 5, 3) := by decide +kernel
theorem dX8_total_21 : decode cX8_total 21 = .ok (.ldc 80, 2) := by decide +kernel
theorem dX8_total_23 : decode cX8_total 23 = .ok (.ireturn, 1) := by decide +kernel
theorem dX8_ear_0 : decode cX8_ear 0 = .ok (.iload_n 1, 1) := by decide +kernel
theorem dX8_ear_1 : decode cX8_ear 1 = .ok (.iconst 2, 1) := by decide +kernel
theorem dX8_ear_2 : decode cX8_ear 2 = .ok (.invokestatic 76, 3) := by decide +kernel
theorem dX8_ear_5 : decode cX8_ear 5 = .ok (.ifCond .eq 12, 3) := by decide +kernel
theorem dX8_ear_8 : decode cX8_ear 8 = .ok (.iload_n 2, 1) := by decide +kernel
theorem dX8_ear_9 : decode cX8_ear 9 = .ok (.bipush 101, 2) := by decide +kernel
theorem dX8_ear_11 : decode cX8_ear 11 = .ok (.invokestatic 76, 3) := by decide +kernel
theorem dX8_ear_14 : decode cX8_ear 14 = .ok (.ifCond .ne 6, 3) := by decide +kernel
theorem dX8_ear_17 : decode cX8_ear 17 = .ok (.ldc 80, 2) := by decide +kernel
theorem dX8_ear_19 : decode cX8_ear 19 = .ok (.ireturn, 1) := by decide +kernel
theorem dX8_ear_20 : decode cX8_ear 20 = .ok (.iload_n 1, 1) := by decide +kernel
theorem dX8_ear_21 : decode cX8_ear 21 = .ok (.ifCond .ne 13, 3) := by decide +kernel
theorem dX8_ear_24 : decode cX8_ear 24 = .ok (.aload_n 0, 1) := by decide +kernel
theorem dX8_ear_25 : decode cX8_ear 25 = .ok (.getfield 12, 3) := by decide +kernel
theorem dX8_ear_28 : decode cX8_ear 28 = .ok (.getfield 131, 3) := by decide +kernel
theorem dX8_ear_31 : decode cX8_ear 31 = .ok (.goto 10, 3) := by decide +kernel
theorem dX8_ear_34 : decode cX8_ear 34 = .ok (.aload_n 0, 1) := by decide +kernel
theorem dX8_ear_35 : decode cX8_ear 35 = .ok (.getfield 12, 3) := by decide +kernel
theorem dX8_ear_38 : decode cX8_ear 38 = .ok (.getfield 134, 3) := by decide +kernel
theorem dX8_ear_41 : decode cX8_ear 41 = .ok (.istore_n 3, 1) := by decide +kernel
theorem dX8_ear_42 : decode cX8_ear 42 = .ok (.iload_n 1, 1) := by decide +kernel
theorem dX8_ear_43 : decode cX8_ear 43 = .ok (.ifCond .ne 14, 3) := by decide +kernel
theorem dX8_ear_46 : decode cX8_ear 46 = .ok (.aload_n 0, 1) := by decide +kernel
theorem dX8_ear_47 : decode cX8_ear 47 = .ok (.getfield 12, 3) := by decide +kernel
theorem dX8_ear_50 : decode cX8_ear 50 = .ok (.iload_n 2, 1) := by decide +kernel
theorem dX8_ear_51 : decode cX8_ear 51 = .ok (.putfield 131, 3) := by decide +kernel
theorem dX8_ear_54 : decode cX8_ear 54 = .ok (.goto 11, 3) := by decide +kernel
theorem dX8_ear_57 : decode cX8_ear 57 = .ok (.aload_n 0, 1) := by decide +kernel
theorem dX8_ear_58 : decode cX8_ear 58 = .ok (.getfield 12, 3) := by decide +kernel
theorem dX8_ear_61 : decode cX8_ear 61 = .ok (.iload_n 2, 1) := by decide +kernel
theorem dX8_ear_62 : decode cX8_ear 62 = .ok (.putfield 134, 3) := by decide +kernel
theorem dX8_ear_65 : decode cX8_ear 65 = .ok (.iload_n 3, 1) := by decide +kernel
theorem dX8_ear_66 : decode cX8_ear 66 = .ok (.ireturn, 1) := by decide +kernel
theorem dX8_deal_0 : decode cX8_deal 0 = .ok (.iload_n 1, 1) := by decide +kernel
theorem dX8_deal_1 : decode cX8_deal 1 = .ok (.iconst 1, 1) := by decide +kernel
theorem dX8_deal_2 : decode cX8_deal 2 = .ok (.if_icmp .lt 9, 3) := by decide +kernel
theorem dX8_deal_5 : decode cX8_deal 5 = .ok (.iload_n 1, 1) := by decide +kernel
theorem dX8_deal_6 : decode cX8_deal 6 = .ok (.bipush 6, 2) := by decide +kernel
theorem dX8_deal_8 : decode cX8_deal 8 = .ok (.if_icmp .le 6, 3) := by decide +kernel
theorem dX8_deal_11 : decode cX8_deal 11 = .ok (.ldc 80, 2) := by decide +kernel
theorem dX8_deal_13 : decode cX8_deal 13 = .ok (.ireturn, 1) := by decide +kernel
theorem dX8_deal_14 : decode cX8_deal 14 = .ok (.iload_n 1, 1) := by decide +kernel
theorem dX8_deal_15 : decode cX8_deal 15 = .ok (.bipush 6, 2) := by decide +kernel
theorem dX8_deal_17 : decode cX8_deal 17 = .ok (.aload_n 0, 1) := by decide +kernel
theorem dX8_deal_18 : decode cX8_deal 18 = .ok (.getfield 12, 3) := by decide +kernel
theorem dX8_deal_21 : decode cX8_deal 21 = .ok (.getfield 81, 3) := by decide +kernel
theorem dX8_deal_24 : decode cX8_deal 24 = .ok (.isub, 1) := by decide +kernel
theorem dX8_deal_25 : decode cX8_deal 25 = .ok (.invokestatic 137, 3) := by decide +kernel
theorem dX8_deal_28 : decode cX8_deal 28 = .ok (.istore_n 2, 1) := by decide +kernel
theorem dX8_deal_29 : decode cX8_deal 29 = .ok (.iconst 0, 1) := by decide +kernel
theorem dX8_deal_30 : decode cX8_deal 30 = .ok (.istore_n 3, 1) := by decide +kernel
theorem dX8_deal_31 : decode cX8_deal 31 = .ok (.iload_n 3, 1) := by decide +kernel
theorem dX8_deal_32 : decode cX8_deal 32 = .ok (.iload_n 2, 1) := by decide +kernel
theorem dX8_deal_33 : decode cX8_deal 33 = .ok (.if_icmp .ge 58, 3) := by decide +kernel
theorem dX8_deal_36 : decode cX8_deal 36 = .ok (.aload_n 0, 1) := by decide +kernel
theorem dX8_deal_37 : decode cX8_deal 37 = .ok (.getfield 12, 3) := by decide +kernel
theorem dX8_deal_40 : decode cX8_deal 40 = .ok (.invokevirtual 143, 3) := by decide +kernel
theorem dX8_deal_43 : decode cX8_deal 43 = .ok (.bipush 6, 2) := by decide +kernel
theorem dX8_deal_45 : decode cX8_deal 45 = .ok (.irem, 1) := by decide +kernel
theorem dX8_deal_46 : decode cX8_deal 46 = .ok (.istore 4, 2) := by decide +kernel
theorem dX8_deal_48 : decode cX8_deal 48 = .ok (.aload_n 0, 1) := by decide +kernel
theorem dX8_deal_49 : decode cX8_deal 49 = .ok (.getfield 12, 3) := by decide +kernel
theorem dX8_deal_52 : decode cX8_deal 52 = .ok (.invokevirtual 143, 3) := by decide +kernel
theorem dX8_deal_55 : decode cX8_deal 55 = .ok (.bipush 10, 2) := by decide +kernel
theorem dX8_deal_57 : decode cX8_deal 57 = .ok (.irem, 1) := by decide +kernel
theorem dX8_deal_58 : decode cX8_deal 58 = .ok (.istore 5, 2) := by decide +kernel
theorem dX8_deal_60 : decode cX8_deal 60 = .ok (.aload_n 0, 1) := by decide +kernel
theorem dX8_deal_61 : decode cX8_deal 61 = .ok (.getfield 12, 3) := by decide +kernel
theorem dX8_deal_64 : decode cX8_deal 64 = .ok (.invokevirtual 143, 3) := by decide +kernel
theorem dX8_deal_67 : decode cX8_deal 67 = .ok (.bipush 10, 2) := by decide +kernel
theorem dX8_deal_69 : decode cX8_deal 69 = .ok (.irem, 1) := by decide +kernel
theorem dX8_deal_70 : decode cX8_deal 70 = .ok (.istore 6, 2) := by decide +kernel
theorem dX8_deal_72 : decode cX8_deal 72 = .ok (.aload_n 0, 1) := by decide +kernel
theorem dX8_deal_73 : decode cX8_deal 73 = .ok (.getfield 12, 3) := by decide +kernel
theorem dX8_deal_76 : decode cX8_deal 76 = .ok (.iload 4, 2) := by decide +kernel
theorem dX8_deal_78 : decode cX8_deal 78 = .ok (.iload 5, 2) := by decide +kernel
theorem dX8_deal_80 : decode cX8_deal 80 = .ok (.iload 6, 2) := by decide +kernel
theorem dX8_deal_82 : decode cX8_deal 82 = .ok (.invokevirtual 85, 3) := by decide +kernel
theorem dX8_deal_85 : decode cX8_deal 85 = .ok (.iinc 3 1, 3) := by decide +kernel
theorem dX8_deal_88 : decode cX8_deal 88 = .ok (.goto (-57), 3) := by decide +kernel
theorem dX8_deal_91 : decode cX8_deal 91 = .ok (.iload_n 2, 1) := by decide +kernel
theorem dX8_deal_92 : decode cX8_deal 92 = .ok (.ireturn, 1) := by decide +kernel
theorem dX8_seed_0 : decode cX8_seed 0 = .ok (.aload_n 0, 1) := by decide +kernel
theorem dX8_seed_1 : decode cX8_seed 1 = .ok (.getfield 12, 3) := by decide +kernel
theorem dX8_seed_4 : decode cX8_seed 4 = .ok (.getfield 146, 3) := by decide +kernel
theorem dX8_seed_7 : decode cX8_seed 7 = .ok (.istore_n 2, 1) := by decide +kernel
theorem dX8_seed_8 : decode cX8_seed 8 = .ok (.aload_n 0, 1) := by decide +kernel
theorem dX8_seed_9 : decode cX8_seed 9 = .ok (.getfield 12, 3) := by decide +kernel
theorem dX8_seed_12 : decode cX8_seed 12 = .ok (.iload_n 1, 1) := by decide +kernel
theorem dX8_seed_13 : decode cX8_seed 13 = .ok (.putfield 146, 3) := by decide +kernel
theorem dX8_seed_16 : decode cX8_seed 16 = .ok (.iload_n 2, 1) := by decide +kernel
theorem dX8_seed_17 : decode cX8_seed 17 = .ok (.ireturn, 1) := by decide +kernel
theorem dX8_minutes_0 : decode cX8_minutes 0 = .ok (.iload_n 1, 1) := by decide +kernel
theorem dX8_minutes_1 : decode cX8_minutes 1 = .ok (.iconst 1, 1) := by decide +kernel
theorem dX8_minutes_2 : decode cX8_minutes 2 = .ok (.if_icmp .lt 9, 3) := by decide +kernel
theorem dX8_minutes_5 : decode cX8_minutes 5 = .ok (.iload_n 1, 1) := by decide +kernel
theorem dX8_minutes_6 : decode cX8_minutes 6 = .ok (.bipush 100, 2) := by decide +kernel
theorem dX8_minutes_8 : decode cX8_minutes 8 = .ok (.if_icmp .le 6, 3) := by decide +kernel
theorem dX8_minutes_11 : decode cX8_minutes 11 = .ok (.ldc 80, 2) := by decide +kernel
theorem dX8_minutes_13 : decode cX8_minutes 13 = .ok (.ireturn, 1) := by decide +kernel
theorem dX8_minutes_14 : decode cX8_minutes 14 = .ok (.aload_n 0, 1) := by decide +kernel
theorem dX8_minutes_15 : decode cX8_minutes 15 = .ok (.getfield 12, 3) := by decide +kernel
theorem dX8_minutes_18 : decode cX8_minutes 18 = .ok (.getfield 149, 3) := by decide +kernel
theorem dX8_minutes_21 : decode cX8_minutes 21 = .ok (.istore_n 2, 1) := by decide +kernel
theorem dX8_minutes_22 : decode cX8_minutes 22 = .ok (.aload_n 0, 1) := by decide +kernel
theorem dX8_minutes_23 : decode cX8_minutes 23 = .ok (.getfield 12, 3) := by decide +kernel
theorem dX8_minutes_26 : decode cX8_minutes 26 = .ok (.iload_n 1, 1) := by decide +kernel
theorem dX8_minutes_27 : decode cX8_minutes 27 = .ok (.sipush 9999, 3) := by decide +kernel
theorem dX8_minutes_30 : decode cX8_minutes 30 = .ok (.aload_n 0, 1) := by decide +kernel
theorem dX8_minutes_31 : decode cX8_minutes 31 = .ok (.getfield 12, 3) := by decide +kernel
theorem dX8_minutes_34 : decode cX8_minutes 34 = .ok (.getfield 152, 3) := by decide +kernel
theorem dX8_minutes_37 : decode cX8_minutes 37 = .ok (.isub, 1) := by decide +kernel
theorem dX8_minutes_38 : decode cX8_minutes 38 = .ok (.invokestatic 137, 3) := by decide +kernel
theorem dX8_minutes_41 : decode cX8_minutes 41 = .ok (.invokevirtual 155, 3) := by decide +kernel
theorem dX8_minutes_44 : decode cX8_minutes 44 = .ok (.aload_n 0, 1) := by decide +kernel
theorem dX8_minutes_45 : decode cX8_minutes 45 = .ok (.getfield 12, 3) := by decide +kernel
theorem dX8_minutes_48 : decode cX8_minutes 48 = .ok (.getfield 149, 3) := by decide +kernel
theorem dX8_minutes_51 : decode cX8_minutes 51 = .ok (.iload_n 2, 1) := by decide +kernel
theorem dX8_minutes_52 : decode cX8_minutes 52 = .ok (.isub, 1) := by decide +kernel
theorem dX8_minutes_53 : decode cX8_minutes 53 = .ok (.ireturn, 1) := by decide +kernel
theorem dX8_bed_0 : decode cX8_bed 0 = .ok (.iload_n 1, 1) := by decide +kernel
theorem dX8_bed_1 : decode cX8_bed 1 = .ok (.iconst 3, 1) := by decide +kernel
theorem dX8_bed_2 : decode cX8_bed 2 = .ok (.if_icmp .ne 13, 3) := by decide +kernel
theorem dX8_bed_5 : decode cX8_bed 5 = .ok (.aload_n 0, 1) := by decide +kernel
theorem dX8_bed_6 : decode cX8_bed 6 = .ok (.getfield 12, 3) := by decide +kernel
theorem dX8_bed_9 : decode cX8_bed 9 = .ok (.getfield 159, 3) := by decide +kernel
theorem dX8_bed_12 : decode cX8_bed 12 = .ok (.goto 11, 3) := by decide +kernel
theorem dX8_bed_15 : decode cX8_bed 15 = .ok (.aload_n 0, 1) := by decide +kernel
theorem dX8_bed_16 : decode cX8_bed 16 = .ok (.getfield 12, 3) := by decide +kernel
theorem dX8_bed_19 : decode cX8_bed 19 = .ok (.iload_n 1, 1) := by decide +kernel
theorem dX8_bed_20 : decode cX8_bed 20 = .ok (.invokevirtual 162, 3) := by decide +kernel
theorem dX8_bed_23 : decode cX8_bed 23 = .ok (.ireturn, 1) := by decide +kernel
theorem dX8_note_0 : decode cX8_note 0 = .ok (.iload_n 1, 1) := by decide +kernel
theorem dX8_note_1 : decode cX8_note 1 = .ok (.bipush 12, 2) := by decide +kernel
theorem dX8_note_3 : decode cX8_note 3 = .ok (.invokestatic 76, 3) := by decide +kernel
theorem dX8_note_6 : decode cX8_note 6 = .ok (.ifCond .ne 6, 3) := by decide +kernel
theorem dX8_note_9 : decode cX8_note 9 = .ok (.ldc 80, 2) := by decide +kernel
theorem dX8_note_11 : decode cX8_note 11 = .ok (.ireturn, 1) := by decide +kernel
theorem dX8_note_12 : decode cX8_note 12 = .ok (.iload_n 1, 1) := by decide +kernel
theorem dX8_note_13 : decode cX8_note 13 = .ok (.aload_n 0, 1) := by decide +kernel
theorem dX8_note_14 : decode cX8_note 14 = .ok (.getfield 12, 3) := by decide +kernel
theorem dX8_note_17 : decode cX8_note 17 = .ok (.getfield 159, 3) := by decide +kernel
theorem dX8_note_20 : decode cX8_note 20 = .ok (.if_icmp .ge 15, 3) := by decide +kernel
theorem dX8_note_23 : decode cX8_note 23 = .ok (.aload_n 0, 1) := by decide +kernel
theorem dX8_note_24 : decode cX8_note 24 = .ok (.getfield 12, 3) := by decide +kernel
theorem dX8_note_27 : decode cX8_note 27 = .ok (.getfield 165, 3) := by decide +kernel
theorem dX8_note_30 : decode cX8_note 30 = .ok (.iload_n 1, 1) := by decide +kernel
theorem dX8_note_31 : decode cX8_note 31 = .ok (.iaload, 1) := by decide +kernel
theorem dX8_note_32 : decode cX8_note 32 = .ok (.goto 5, 3) := by decide +kernel
theorem dX8_note_35 : decode cX8_note 35 = .ok (.ldc 168, 2) := by decide +kernel
theorem dX8_note_37 : decode cX8_note 37 = .ok (.ireturn, 1) := by decide +kernel
theorem dX8_fits_0 : decode cX8_fits 0 = .ok (.iload_n 1, 1) := by decide +kernel
theorem dX8_fits_1 : decode cX8_fits 1 = .ok (.sipush 720, 3) := by decide +kernel
theorem dX8_fits_4 : decode cX8_fits 4 = .ok (.invokestatic 76, 3) := by decide +kernel
theorem dX8_fits_7 : decode cX8_fits 7 = .ok (.ifCond .ne 6, 3) := by decide +kernel
theorem dX8_fits_10 : decode cX8_fits 10 = .ok (.ldc 80, 2) := by decide +kernel
theorem dX8_fits_12 : decode cX8_fits 12 = .ok (.ireturn, 1) := by decide +kernel
theorem dX8_fits_13 : decode cX8_fits 13 = .ok (.iconst 0, 1) := by decide +kernel
theorem dX8_fits_14 : decode cX8_fits 14 = .ok (.istore_n 2, 1) := by decide +kernel
theorem dX8_fits_15 : decode cX8_fits 15 = .ok (.iload_n 2, 1) := by decide +kernel
theorem dX8_fits_16 : decode cX8_fits 16 = .ok (.aload_n 0, 1) := by decide +kernel
theorem dX8_fits_17 : decode cX8_fits 17 = .ok (.getfield 12, 3) := by decide +kernel
theorem dX8_fits_20 : decode cX8_fits 20 = .ok (.getfield 159, 3) := by decide +kernel
theorem dX8_fits_23 : decode cX8_fits 23 = .ok (.if_icmp .ge 46, 3) := by decide +kernel
theorem dX8_fits_26 : decode cX8_fits 26 = .ok (.aload_n 0, 1) := by decide +kernel
theorem dX8_fits_27 : decode cX8_fits 27 = .ok (.getfield 12, 3) := by decide +kernel
theorem dX8_fits_30 : decode cX8_fits 30 = .ok (.aload_n 0, 1) := by decide +kernel
theorem dX8_fits_31 : decode cX8_fits 31 = .ok (.getfield 12, 3) := by decide +kernel
theorem dX8_fits_34 : decode cX8_fits 34 = .ok (.getfield 165, 3) := by decide +kernel
theorem dX8_fits_37 : decode cX8_fits 37 = .ok (.iload_n 2, 1) := by decide +kernel
theorem dX8_fits_38 : decode cX8_fits 38 = .ok (.iaload, 1) := by decide +kernel
theorem dX8_fits_39 : decode cX8_fits 39 = .ok (.aload_n 0, 1) := by decide +kernel
theorem dX8_fits_40 : decode cX8_fits 40 = .ok (.getfield 12, 3) := by decide +kernel
theorem dX8_fits_43 : decode cX8_fits 43 = .ok (.iload_n 1, 1) := by decide +kernel
theorem dX8_fits_44 : decode cX8_fits 44 = .ok (.iload_n 2, 1) := by decide +kernel
theorem dX8_fits_45 : decode cX8_fits 45 = .ok (.isub, 1) := by decide +kernel
theorem dX8_fits_46 : decode cX8_fits 46 = .ok (.sipush 720, 3) := by decide +kernel
theorem dX8_fits_49 : decode cX8_fits 49 = .ok (.invokestatic 169, 3) := by decide +kernel
theorem dX8_fits_52 : decode cX8_fits 52 = .ok (.invokevirtual 127, 3) := by decide +kernel
theorem dX8_fits_55 : decode cX8_fits 55 = .ok (.invokevirtual 172, 3) := by decide +kernel
theorem dX8_fits_58 : decode cX8_fits 58 = .ok (.ifCond .ne 5, 3) := by decide +kernel
theorem dX8_fits_61 : decode cX8_fits 61 = .ok (.iconst 0, 1) := by decide +kernel
theorem dX8_fits_62 : decode cX8_fits 62 = .ok (.ireturn, 1) := by decide +kernel
theorem dX8_fits_63 : decode cX8_fits 63 = .ok (.iinc 2 1, 3) := by decide +kernel
theorem dX8_fits_66 : decode cX8_fits 66 = .ok (.goto (-51), 3) := by decide +kernel
theorem dX8_fits_69 : decode cX8_fits 69 = .ok (.iconst 1, 1) := by decide +kernel
theorem dX8_fits_70 : decode cX8_fits 70 = .ok (.ireturn, 1) := by decide +kernel
theorem dX8_may_0 : decode cX8_may 0 = .ok (.iload_n 1, 1) := by decide +kernel
theorem dX8_may_1 : decode cX8_may 1 = .ok (.iconst 4, 1) := by decide +kernel
theorem dX8_may_2 : decode cX8_may 2 = .ok (.invokestatic 76, 3) := by decide +kernel
theorem dX8_may_5 : decode cX8_may 5 = .ok (.ifCond .ne 6, 3) := by decide +kernel
theorem dX8_may_8 : decode cX8_may 8 = .ok (.ldc 80, 2) := by decide +kernel
theorem dX8_may_10 : decode cX8_may 10 = .ok (.ireturn, 1) := by decide +kernel
theorem dX8_may_11 : decode cX8_may 11 = .ok (.aload_n 0, 1) := by decide +kernel
theorem dX8_may_12 : decode cX8_may 12 = .ok (.getfield 29, 3) := by decide +kernel
theorem dX8_may_15 : decode cX8_may 15 = .ok (.aload_n 0, 1) := by decide +kernel
theorem dX8_may_16 : decode cX8_may 16 = .ok (.getfield 12, 3) := by decide +kernel
theorem dX8_may_19 : decode cX8_may 19 = .ok (.invokevirtual 175, 3) := by decide +kernel
theorem dX8_may_22 : decode cX8_may 22 = .ok (.aload_n 0, 1) := by decide +kernel
theorem dX8_may_23 : decode cX8_may 23 = .ok (.getfield 29, 3) := by decide +kernel
theorem dX8_may_26 : decode cX8_may 26 = .ok (.aload_n 0, 1) := by decide +kernel
theorem dX8_may_27 : decode cX8_may 27 = .ok (.getfield 12, 3) := by decide +kernel
theorem dX8_may_30 : decode cX8_may 30 = .ok (.invokevirtual 179, 3) := by decide +kernel
theorem dX8_may_33 : decode cX8_may 33 = .ok (.aload_n 0, 1) := by decide +kernel
theorem dX8_may_34 : decode cX8_may 34 = .ok (.getfield 29, 3) := by decide +kernel
theorem dX8_may_37 : decode cX8_may 37 = .ok (.invokevirtual 182, 3) := by decide +kernel
theorem dX8_may_40 : decode cX8_may 40 = .ok (.iload_n 1, 1) := by decide +kernel
theorem dX8_may_41 : decode cX8_may 41 = .ok (.tableswitch 51 0 2 #[27, 35, 43], 27) := by decide +kernel
theorem dX8_may_68 : decode cX8_may 68 = .ok (.aload_n 0, 1) := by decide +kernel
theorem dX8_may_69 : decode cX8_may 69 = .ok (.getfield 29, 3) := by decide +kernel
theorem dX8_may_72 : decode cX8_may 72 = .ok (.getfield 185, 3) := by decide +kernel
theorem dX8_may_75 : decode cX8_may 75 = .ok (.ireturn, 1) := by decide +kernel
theorem dX8_may_76 : decode cX8_may 76 = .ok (.aload_n 0, 1) := by decide +kernel
theorem dX8_may_77 : decode cX8_may 77 = .ok (.getfield 29, 3) := by decide +kernel
theorem dX8_may_80 : decode cX8_may 80 = .ok (.getfield 188, 3) := by decide +kernel
theorem dX8_may_83 : decode cX8_may 83 = .ok (.ireturn, 1) := by decide +kernel
theorem dX8_may_84 : decode cX8_may 84 = .ok (.aload_n 0, 1) := by decide +kernel
theorem dX8_may_85 : decode cX8_may 85 = .ok (.getfield 29, 3) := by decide +kernel
theorem dX8_may_88 : decode cX8_may 88 = .ok (.getfield 191, 3) := by decide +kernel
theorem dX8_may_91 : decode cX8_may 91 = .ok (.ireturn, 1) := by decide +kernel
theorem dX8_may_92 : decode cX8_may 92 = .ok (.aload_n 0, 1) := by decide +kernel
theorem dX8_may_93 : decode cX8_may 93 = .ok (.getfield 29, 3) := by decide +kernel
theorem dX8_may_96 : decode cX8_may 96 = .ok (.invokevirtual 194, 3) := by decide +kernel
theorem dX8_may_99 : decode cX8_may 99 = .ok (.ifCond .eq 7, 3) := by decide +kernel
theorem dX8_may_102 : decode cX8_may 102 = .ok (.iconst 1, 1) := by decide +kernel
theorem dX8_may_103 : decode cX8_may 103 = .ok (.goto 4, 3) := by decide +kernel
theorem dX8_may_106 : decode cX8_may 106 = .ok (.iconst 0, 1) := by decide +kernel
theorem dX8_may_107 : decode cX8_may 107 = .ok (.ireturn, 1) := by decide +kernel
theorem dX8_next_0 : decode cX8_next 0 = .ok (.iconst 1, 1) := by decide +kernel
theorem dX8_next_1 : decode cX8_next 1 = .ok (.istore_n 1, 1) := by decide +kernel
theorem dX8_next_2 : decode cX8_next 2 = .ok (.iload_n 1, 1) := by decide +kernel
theorem dX8_next_3 : decode cX8_next 3 = .ok (.bipush 60, 2) := by decide +kernel
theorem dX8_next_5 : decode cX8_next 5 = .ok (.if_icmp .gt 36, 3) := by decide +kernel
theorem dX8_next_8 : decode cX8_next 8 = .ok (.aload_n 0, 1) := by decide +kernel
theorem dX8_next_9 : decode cX8_next 9 = .ok (.getfield 12, 3) := by decide +kernel
theorem dX8_next_12 : decode cX8_next 12 = .ok (.aload_n 0, 1) := by decide +kernel
theorem dX8_next_13 : decode cX8_next 13 = .ok (.getfield 12, 3) := by decide +kernel
theorem dX8_next_16 : decode cX8_next 16 = .ok (.getfield 152, 3) := by decide +kernel
theorem dX8_next_19 : decode cX8_next 19 = .ok (.iload_n 1, 1) := by decide +kernel
theorem dX8_next_20 : decode cX8_next 20 = .ok (.iadd, 1) := by decide +kernel
theorem dX8_next_21 : decode cX8_next 21 = .ok (.iconst 1, 1) := by decide +kernel
theorem dX8_next_22 : decode cX8_next 22 = .ok (.isub, 1) := by decide +kernel
theorem dX8_next_23 : decode cX8_next 23 = .ok (.sipush 720, 3) := by decide +kernel
theorem dX8_next_26 : decode cX8_next 26 = .ok (.irem, 1) := by decide +kernel
theorem dX8_next_27 : decode cX8_next 27 = .ok (.invokevirtual 127, 3) := by decide +kernel
theorem dX8_next_30 : decode cX8_next 30 = .ok (.ifCond .le 5, 3) := by decide +kernel
theorem dX8_next_33 : decode cX8_next 33 = .ok (.iload_n 1, 1) := by decide +kernel
theorem dX8_next_34 : decode cX8_next 34 = .ok (.ireturn, 1) := by decide +kernel
theorem dX8_next_35 : decode cX8_next 35 = .ok (.iinc 1 1, 3) := by decide +kernel
theorem dX8_next_38 : decode cX8_next 38 = .ok (.goto (-36), 3) := by decide +kernel
theorem dX8_next_41 : decode cX8_next 41 = .ok (.ldc 168, 2) := by decide +kernel
theorem dX8_next_43 : decode cX8_next 43 = .ok (.ireturn, 1) := by decide +kernel
theorem dX8_parts_0 : decode cX8_parts 0 = .ok (.iload_n 1, 1) := by decide +kernel
theorem dX8_parts_1 : decode cX8_parts 1 = .ok (.sipush 720, 3) := by decide +kernel
theorem dX8_parts_4 : decode cX8_parts 4 = .ok (.invokestatic 76, 3) := by decide +kernel
theorem dX8_parts_7 : decode cX8_parts 7 = .ok (.ifCond .eq 7, 3) := by decide +kernel
theorem dX8_parts_10 : decode cX8_parts 10 = .ok (.iload_n 2, 1) := by decide +kernel
theorem dX8_parts_11 : decode cX8_parts 11 = .ok (.ifCond .ge 6, 3) := by decide +kernel
theorem dX8_parts_14 : decode cX8_parts 14 = .ok (.ldc 80, 2) := by decide +kernel
theorem dX8_parts_16 : decode cX8_parts 16 = .ok (.ireturn, 1) := by decide +kernel
theorem dX8_parts_17 : decode cX8_parts 17 = .ok (.iconst 0, 1) := by decide +kernel
theorem dX8_parts_18 : decode cX8_parts 18 = .ok (.istore_n 3, 1) := by decide +kernel
theorem dX8_parts_19 : decode cX8_parts 19 = .ok (.iconst 0, 1) := by decide +kernel
theorem dX8_parts_20 : decode cX8_parts 20 = .ok (.istore 4, 2) := by decide +kernel
theorem dX8_parts_22 : decode cX8_parts 22 = .ok (.iload 4, 2) := by decide +kernel
theorem dX8_parts_24 : decode cX8_parts 24 = .ok (.iconst 1, 1) := by decide +kernel
theorem dX8_parts_25 : decode cX8_parts 25 = .ok (.aload_n 0, 1) := by decide +kernel
theorem dX8_parts_26 : decode cX8_parts 26 = .ok (.getfield 12, 3) := by decide +kernel
theorem dX8_parts_29 : decode cX8_parts 29 = .ok (.getfield 81, 3) := by decide +kernel
theorem dX8_parts_32 : decode cX8_parts 32 = .ok (.ishl, 1) := by decide +kernel
theorem dX8_parts_33 : decode cX8_parts 33 = .ok (.if_icmp .ge 76, 3) := by decide +kernel
theorem dX8_parts_36 : decode cX8_parts 36 = .ok (.iconst 0, 1) := by decide +kernel
theorem dX8_parts_37 : decode cX8_parts 37 = .ok (.istore 5, 2) := by decide +kernel
theorem dX8_parts_39 : decode cX8_parts 39 = .ok (.iconst 0, 1) := by decide +kernel
theorem dX8_parts_40 : decode cX8_parts 40 = .ok (.istore 6, 2) := by decide +kernel
theorem dX8_parts_42 : decode cX8_parts 42 = .ok (.iload 6, 2) := by decide +kernel
theorem dX8_parts_44 : decode cX8_parts 44 = .ok (.aload_n 0, 1) := by decide +kernel
theorem dX8_parts_45 : decode cX8_parts 45 = .ok (.getfield 12, 3) := by decide +kernel
theorem dX8_parts_48 : decode cX8_parts 48 = .ok (.getfield 81, 3) := by decide +kernel
theorem dX8_parts_51 : decode cX8_parts 51 = .ok (.if_icmp .ge 43, 3) := by decide +kernel
theorem dX8_parts_54 : decode cX8_parts 54 = .ok (.iload 4, 2) := by decide +kernel
theorem dX8_parts_56 : decode cX8_parts 56 = .ok (.iload 6, 2) := by decide +kernel
theorem dX8_parts_58 : decode cX8_parts 58 = .ok (.ishr, 1) := by decide +kernel
theorem dX8_parts_59 : decode cX8_parts 59 = .ok (.iconst 1, 1) := by decide +kernel
theorem dX8_parts_60 : decode cX8_parts 60 = .ok (.iand, 1) := by decide +kernel
theorem dX8_parts_61 : decode cX8_parts 61 = .ok (.iconst 1, 1) := by decide +kernel
theorem dX8_parts_62 : decode cX8_parts 62 = .ok (.if_icmp .ne 26, 3) := by decide +kernel
theorem dX8_parts_65 : decode cX8_parts 65 = .ok (.iload 5, 2) := by decide +kernel
theorem dX8_parts_67 : decode cX8_parts 67 = .ok (.aload_n 0, 1) := by decide +kernel
theorem dX8_parts_68 : decode cX8_parts 68 = .ok (.getfield 12, 3) := by decide +kernel
theorem dX8_parts_71 : decode cX8_parts 71 = .ok (.aload_n 0, 1) := by decide +kernel
theorem dX8_parts_72 : decode cX8_parts 72 = .ok (.getfield 12, 3) := by decide +kernel
theorem dX8_parts_75 : decode cX8_parts 75 = .ok (.getfield 93, 3) := by decide +kernel
theorem dX8_parts_78 : decode cX8_parts 78 = .ok (.iload 6, 2) := by decide +kernel
theorem dX8_parts_80 : decode cX8_parts 80 = .ok (.aaload, 1) := by decide +kernel
theorem dX8_parts_81 : decode cX8_parts 81 = .ok (.iload_n 1, 1) := by decide +kernel
theorem dX8_parts_82 : decode cX8_parts 82 = .ok (.invokevirtual 112, 3) := by decide +kernel
theorem dX8_parts_85 : decode cX8_parts 85 = .ok (.iadd, 1) := by decide +kernel
theorem dX8_parts_86 : decode cX8_parts 86 = .ok (.istore 5, 2) := by decide +kernel
theorem dX8_parts_88 : decode cX8_parts 88 = .ok (.iinc 6 1, 3) := by decide +kernel
theorem dX8_parts_91 : decode cX8_parts 91 = .ok (.goto (-49), 3) := by decide +kernel
theorem dX8_parts_94 : decode cX8_parts 94 = .ok (.iload 5, 2) := by decide +kernel
theorem dX8_parts_96 : decode cX8_parts 96 = .ok (.iload_n 2, 1) := by decide +kernel
theorem dX8_parts_97 : decode cX8_parts 97 = .ok (.if_icmp .ne 6, 3) := by decide +kernel
theorem dX8_parts_100 : decode cX8_parts 100 = .ok (.iinc 3 1, 3) := by decide +kernel
theorem dX8_parts_103 : decode cX8_parts 103 = .ok (.iinc 4 1, 3) := by decide +kernel
theorem dX8_parts_106 : decode cX8_parts 106 = .ok (.goto (-84), 3) := by decide +kernel
theorem dX8_parts_109 : decode cX8_parts 109 = .ok (.iload_n 3, 1) := by decide +kernel
theorem dX8_parts_110 : decode cX8_parts 110 = .ok (.ireturn, 1) := by decide +kernel
theorem dX8_astray_0 : decode cX8_astray 0 = .ok (.iload_n 1, 1) := by decide +kernel
theorem dX8_astray_1 : decode cX8_astray 1 = .ok (.iconst 2, 1) := by decide +kernel
theorem dX8_astray_2 : decode cX8_astray 2 = .ok (.invokestatic 76, 3) := by decide +kernel
theorem dX8_astray_5 : decode cX8_astray 5 = .ok (.ifCond .ne 6, 3) := by decide +kernel
theorem dX8_astray_8 : decode cX8_astray 8 = .ok (.ldc 80, 2) := by decide +kernel
theorem dX8_astray_10 : decode cX8_astray 10 = .ok (.ireturn, 1) := by decide +kernel
theorem dX8_astray_11 : decode cX8_astray 11 = .ok (.aload_n 0, 1) := by decide +kernel
theorem dX8_astray_12 : decode cX8_astray 12 = .ok (.getfield 29, 3) := by decide +kernel
theorem dX8_astray_15 : decode cX8_astray 15 = .ok (.aload_n 0, 1) := by decide +kernel
theorem dX8_astray_16 : decode cX8_astray 16 = .ok (.getfield 12, 3) := by decide +kernel
theorem dX8_astray_19 : decode cX8_astray 19 = .ok (.invokevirtual 175, 3) := by decide +kernel
theorem dX8_astray_22 : decode cX8_astray 22 = .ok (.aload_n 0, 1) := by decide +kernel
theorem dX8_astray_23 : decode cX8_astray 23 = .ok (.getfield 29, 3) := by decide +kernel
theorem dX8_astray_26 : decode cX8_astray 26 = .ok (.aload_n 0, 1) := by decide +kernel
theorem dX8_astray_27 : decode cX8_astray 27 = .ok (.getfield 12, 3) := by decide +kernel
theorem dX8_astray_30 : decode cX8_astray 30 = .ok (.invokevirtual 179, 3) := by decide +kernel
theorem dX8_astray_33 : decode cX8_astray 33 = .ok (.ldc 168, 2) := by decide +kernel
theorem dX8_astray_35 : decode cX8_astray 35 = .ok (.istore_n 2, 1) := by decide +kernel
theorem dX8_astray_36 : decode cX8_astray 36 = .ok (.ldc 168, 2) := by decide +kernel
theorem dX8_astray_38 : decode cX8_astray 38 = .ok (.istore_n 3, 1) := by decide +kernel
theorem dX8_astray_39 : decode cX8_astray 39 = .ok (.iconst 0, 1) := by decide +kernel
theorem dX8_astray_40 : decode cX8_astray 40 = .ok (.istore 4, 2) := by decide +kernel
theorem dX8_astray_42 : decode cX8_astray 42 = .ok (.iload 4, 2) := by decide +kernel
theorem dX8_astray_44 : decode cX8_astray 44 = .ok (.aload_n 0, 1) := by decide +kernel
theorem dX8_astray_45 : decode cX8_astray 45 = .ok (.getfield 12, 3) := by decide +kernel
theorem dX8_astray_48 : decode cX8_astray 48 = .ok (.getfield 81, 3) := by decide +kernel
theorem dX8_astray_51 : decode cX8_astray 51 = .ok (.if_icmp .ge 94, 3) := by decide +kernel
theorem dX8_astray_54 : decode cX8_astray 54 = .ok (.aload_n 0, 1) := by decide +kernel
theorem dX8_astray_55 : decode cX8_astray 55 = .ok (.getfield 12, 3) := by decide +kernel
theorem dX8_astray_58 : decode cX8_astray 58 = .ok (.getfield 93, 3) := by decide +kernel
theorem dX8_astray_61 : decode cX8_astray 61 = .ok (.iload 4, 2) := by decide +kernel
theorem dX8_astray_63 : decode cX8_astray 63 = .ok (.aaload, 1) := by decide +kernel
theorem dX8_astray_64 : decode cX8_astray 64 = .ok (.astore 5, 2) := by decide +kernel
theorem dX8_astray_66 : decode cX8_astray 66 = .ok (.aload_n 0, 1) := by decide +kernel
theorem dX8_astray_67 : decode cX8_astray 67 = .ok (.getfield 29, 3) := by decide +kernel
theorem dX8_astray_70 : decode cX8_astray 70 = .ok (.aload_n 0, 1) := by decide +kernel
theorem dX8_astray_71 : decode cX8_astray 71 = .ok (.getfield 12, 3) := by decide +kernel
theorem dX8_astray_74 : decode cX8_astray 74 = .ok (.aload 5, 2) := by decide +kernel
theorem dX8_astray_76 : decode cX8_astray 76 = .ok (.aload 5, 2) := by decide +kernel
theorem dX8_astray_78 : decode cX8_astray 78 = .ok (.getfield 102, 3) := by decide +kernel
theorem dX8_astray_81 : decode cX8_astray 81 = .ok (.iconst (-1), 1) := by decide +kernel
theorem dX8_astray_82 : decode cX8_astray 82 = .ok (.invokevirtual 198, 3) := by decide +kernel
theorem dX8_astray_85 : decode cX8_astray 85 = .ok (.aload_n 0, 1) := by decide +kernel
theorem dX8_astray_86 : decode cX8_astray 86 = .ok (.getfield 29, 3) := by decide +kernel
theorem dX8_astray_89 : decode cX8_astray 89 = .ok (.invokevirtual 182, 3) := by decide +kernel
theorem dX8_astray_92 : decode cX8_astray 92 = .ok (.aload_n 0, 1) := by decide +kernel
theorem dX8_astray_93 : decode cX8_astray 93 = .ok (.getfield 29, 3) := by decide +kernel
theorem dX8_astray_96 : decode cX8_astray 96 = .ok (.aload_n 0, 1) := by decide +kernel
theorem dX8_astray_97 : decode cX8_astray 97 = .ok (.getfield 12, 3) := by decide +kernel
theorem dX8_astray_100 : decode cX8_astray 100 = .ok (.aload 5, 2) := by decide +kernel
theorem dX8_astray_102 : decode cX8_astray 102 = .ok (.aload 5, 2) := by decide +kernel
theorem dX8_astray_104 : decode cX8_astray 104 = .ok (.getfield 102, 3) := by decide +kernel
theorem dX8_astray_107 : decode cX8_astray 107 = .ok (.iconst 1, 1) := by decide +kernel
theorem dX8_astray_108 : decode cX8_astray 108 = .ok (.invokevirtual 198, 3) := by decide +kernel
theorem dX8_astray_111 : decode cX8_astray 111 = .ok (.iload_n 2, 1) := by decide +kernel
theorem dX8_astray_112 : decode cX8_astray 112 = .ok (.ldc 168, 2) := by decide +kernel
theorem dX8_astray_114 : decode cX8_astray 114 = .ok (.if_icmp .eq 14, 3) := by decide +kernel
theorem dX8_astray_117 : decode cX8_astray 117 = .ok (.aload_n 0, 1) := by decide +kernel
theorem dX8_astray_118 : decode cX8_astray 118 = .ok (.getfield 29, 3) := by decide +kernel
theorem dX8_astray_121 : decode cX8_astray 121 = .ok (.getfield 185, 3) := by decide +kernel
theorem dX8_astray_124 : decode cX8_astray 124 = .ok (.iload_n 3, 1) := by decide +kernel
theorem dX8_astray_125 : decode cX8_astray 125 = .ok (.if_icmp .le 14, 3) := by decide +kernel
theorem dX8_astray_128 : decode cX8_astray 128 = .ok (.iload 4, 2) := by decide +kernel
theorem dX8_astray_130 : decode cX8_astray 130 = .ok (.istore_n 2, 1) := by decide +kernel
theorem dX8_astray_131 : decode cX8_astray 131 = .ok (.aload_n 0, 1) := by decide +kernel
theorem dX8_astray_132 : decode cX8_astray 132 = .ok (.getfield 29, 3) := by decide +kernel
theorem dX8_astray_135 : decode cX8_astray 135 = .ok (.getfield 185, 3) := by decide +kernel
theorem dX8_astray_138 : decode cX8_astray 138 = .ok (.istore_n 3, 1) := by decide +kernel
theorem dX8_astray_139 : decode cX8_astray 139 = .ok (.iinc 4 1, 3) := by decide +kernel
theorem dX8_astray_142 : decode cX8_astray 142 = .ok (.goto (-100), 3) := by decide +kernel
theorem dX8_astray_145 : decode cX8_astray 145 = .ok (.iload_n 1, 1) := by decide +kernel
theorem dX8_astray_146 : decode cX8_astray 146 = .ok (.ifCond .ne 7, 3) := by decide +kernel
theorem dX8_astray_149 : decode cX8_astray 149 = .ok (.iload_n 2, 1) := by decide +kernel
theorem dX8_astray_150 : decode cX8_astray 150 = .ok (.goto 4, 3) := by decide +kernel
theorem dX8_astray_153 : decode cX8_astray 153 = .ok (.iload_n 3, 1) := by decide +kernel
theorem dX8_astray_154 : decode cX8_astray 154 = .ok (.ireturn, 1) := by decide +kernel
theorem dX8_right_0 : decode cX8_right 0 = .ok (.aload_n 0, 1) := by decide +kernel
theorem dX8_right_1 : decode cX8_right 1 = .ok (.getfield 12, 3) := by decide +kernel
theorem dX8_right_4 : decode cX8_right 4 = .ok (.iload_n 1, 1) := by decide +kernel
theorem dX8_right_5 : decode cX8_right 5 = .ok (.invokevirtual 89, 3) := by decide +kernel
theorem dX8_right_8 : decode cX8_right 8 = .ok (.ifCond .eq 11, 3) := by decide +kernel
theorem dX8_right_11 : decode cX8_right 11 = .ok (.iload_n 2, 1) := by decide +kernel
theorem dX8_right_12 : decode cX8_right 12 = .ok (.iconst 2, 1) := by decide +kernel
theorem dX8_right_13 : decode cX8_right 13 = .ok (.invokestatic 76, 3) := by decide +kernel
theorem dX8_right_16 : decode cX8_right 16 = .ok (.ifCond .ne 6, 3) := by decide +kernel
theorem dX8_right_19 : decode cX8_right 19 = .ok (.ldc 80, 2) := by decide +kernel
theorem dX8_right_21 : decode cX8_right 21 = .ok (.ireturn, 1) := by decide +kernel
theorem dX8_right_22 : decode cX8_right 22 = .ok (.aload_n 0, 1) := by decide +kernel
theorem dX8_right_23 : decode cX8_right 23 = .ok (.getfield 12, 3) := by decide +kernel
theorem dX8_right_26 : decode cX8_right 26 = .ok (.getfield 93, 3) := by decide +kernel
theorem dX8_right_29 : decode cX8_right 29 = .ok (.iload_n 1, 1) := by decide +kernel
theorem dX8_right_30 : decode cX8_right 30 = .ok (.aaload, 1) := by decide +kernel
theorem dX8_right_31 : decode cX8_right 31 = .ok (.astore_n 3, 1) := by decide +kernel
theorem dX8_right_32 : decode cX8_right 32 = .ok (.aload_n 0, 1) := by decide +kernel
theorem dX8_right_33 : decode cX8_right 33 = .ok (.getfield 29, 3) := by decide +kernel
theorem dX8_right_36 : decode cX8_right 36 = .ok (.aload_n 0, 1) := by decide +kernel
theorem dX8_right_37 : decode cX8_right 37 = .ok (.getfield 12, 3) := by decide +kernel
theorem dX8_right_40 : decode cX8_right 40 = .ok (.invokevirtual 175, 3) := by decide +kernel
theorem dX8_right_43 : decode cX8_right 43 = .ok (.aload_n 0, 1) := by decide +kernel
theorem dX8_right_44 : decode cX8_right 44 = .ok (.getfield 29, 3) := by decide +kernel
theorem dX8_right_47 : decode cX8_right 47 = .ok (.aload_n 0, 1) := by decide +kernel
theorem dX8_right_48 : decode cX8_right 48 = .ok (.getfield 12, 3) := by decide +kernel
theorem dX8_right_51 : decode cX8_right 51 = .ok (.invokevirtual 179, 3) := by decide +kernel
theorem dX8_right_54 : decode cX8_right 54 = .ok (.aload_n 0, 1) := by decide +kernel
theorem dX8_right_55 : decode cX8_right 55 = .ok (.getfield 29, 3) := by decide +kernel
theorem dX8_right_58 : decode cX8_right 58 = .ok (.aload_n 0, 1) := by decide +kernel
theorem dX8_right_59 : decode cX8_right 59 = .ok (.getfield 12, 3) := by decide +kernel
theorem dX8_right_62 : decode cX8_right 62 = .ok (.aload_n 3, 1) := by decide +kernel
theorem dX8_right_63 : decode cX8_right 63 = .ok (.aload_n 3, 1) := by decide +kernel
theorem dX8_right_64 : decode cX8_right 64 = .ok (.getfield 102, 3) := by decide +kernel
theorem dX8_right_67 : decode cX8_right 67 = .ok (.iconst (-1), 1) := by decide +kernel
theorem dX8_right_68 : decode cX8_right 68 = .ok (.invokevirtual 198, 3) := by decide +kernel
theorem dX8_right_71 : decode cX8_right 71 = .ok (.ldc 168, 2) := by decide +kernel
theorem dX8_right_73 : decode cX8_right 73 = .ok (.istore 4, 2) := by decide +kernel
theorem dX8_right_75 : decode cX8_right 75 = .ok (.ldc 168, 2) := by decide +kernel
theorem dX8_right_77 : decode cX8_right 77 = .ok (.istore 5, 2) := by decide +kernel
theorem dX8_right_79 : decode cX8_right 79 = .ok (.iconst 0, 1) := by decide +kernel
theorem dX8_right_80 : decode cX8_right 80 = .ok (.istore 6, 2) := by decide +kernel
theorem dX8_right_82 : decode cX8_right 82 = .ok (.iload 6, 2) := by decide +kernel
theorem dX8_right_84 : decode cX8_right 84 = .ok (.bipush 60, 2) := by decide +kernel
theorem dX8_right_86 : decode cX8_right 86 = .ok (.if_icmp .ge 88, 3) := by decide +kernel
theorem dX8_right_89 : decode cX8_right 89 = .ok (.aload_n 0, 1) := by decide +kernel
theorem dX8_right_90 : decode cX8_right 90 = .ok (.getfield 29, 3) := by decide +kernel
theorem dX8_right_93 : decode cX8_right 93 = .ok (.aload_n 0, 1) := by decide +kernel
theorem dX8_right_94 : decode cX8_right 94 = .ok (.getfield 12, 3) := by decide +kernel
theorem dX8_right_97 : decode cX8_right 97 = .ok (.aload_n 3, 1) := by decide +kernel
theorem dX8_right_98 : decode cX8_right 98 = .ok (.iload 6, 2) := by decide +kernel
theorem dX8_right_100 : decode cX8_right 100 = .ok (.iconst 1, 1) := by decide +kernel
theorem dX8_right_101 : decode cX8_right 101 = .ok (.invokevirtual 198, 3) := by decide +kernel
theorem dX8_right_104 : decode cX8_right 104 = .ok (.aload_n 0, 1) := by decide +kernel
theorem dX8_right_105 : decode cX8_right 105 = .ok (.getfield 29, 3) := by decide +kernel
theorem dX8_right_108 : decode cX8_right 108 = .ok (.invokevirtual 182, 3) := by decide +kernel
theorem dX8_right_111 : decode cX8_right 111 = .ok (.aload_n 0, 1) := by decide +kernel
theorem dX8_right_112 : decode cX8_right 112 = .ok (.getfield 29, 3) := by decide +kernel
theorem dX8_right_115 : decode cX8_right 115 = .ok (.aload_n 0, 1) := by decide +kernel
theorem dX8_right_116 : decode cX8_right 116 = .ok (.getfield 12, 3) := by decide +kernel
theorem dX8_right_119 : decode cX8_right 119 = .ok (.aload_n 3, 1) := by decide +kernel
theorem dX8_right_120 : decode cX8_right 120 = .ok (.iload 6, 2) := by decide +kernel
theorem dX8_right_122 : decode cX8_right 122 = .ok (.iconst (-1), 1) := by decide +kernel
theorem dX8_right_123 : decode cX8_right 123 = .ok (.invokevirtual 198, 3) := by decide +kernel
theorem dX8_right_126 : decode cX8_right 126 = .ok (.aload_n 0, 1) := by decide +kernel
theorem dX8_right_127 : decode cX8_right 127 = .ok (.getfield 29, 3) := by decide +kernel
theorem dX8_right_130 : decode cX8_right 130 = .ok (.getfield 185, 3) := by decide +kernel
theorem dX8_right_133 : decode cX8_right 133 = .ok (.ifCond .le 35, 3) := by decide +kernel
theorem dX8_right_136 : decode cX8_right 136 = .ok (.iload 4, 2) := by decide +kernel
theorem dX8_right_138 : decode cX8_right 138 = .ok (.ldc 168, 2) := by decide +kernel
theorem dX8_right_140 : decode cX8_right 140 = .ok (.if_icmp .eq 15, 3) := by decide +kernel
theorem dX8_right_143 : decode cX8_right 143 = .ok (.aload_n 0, 1) := by decide +kernel
theorem dX8_right_144 : decode cX8_right 144 = .ok (.getfield 29, 3) := by decide +kernel
theorem dX8_right_147 : decode cX8_right 147 = .ok (.getfield 185, 3) := by decide +kernel
theorem dX8_right_150 : decode cX8_right 150 = .ok (.iload 5, 2) := by decide +kernel
theorem dX8_right_152 : decode cX8_right 152 = .ok (.if_icmp .ge 16, 3) := by decide +kernel
theorem dX8_right_155 : decode cX8_right 155 = .ok (.iload 6, 2) := by decide +kernel
theorem dX8_right_157 : decode cX8_right 157 = .ok (.istore 4, 2) := by decide +kernel
theorem dX8_right_159 : decode cX8_right 159 = .ok (.aload_n 0, 1) := by decide +kernel
theorem dX8_right_160 : decode cX8_right 160 = .ok (.getfield 29, 3) := by decide +kernel
theorem dX8_right_163 : decode cX8_right 163 = .ok (.getfield 185, 3) := by decide +kernel
theorem dX8_right_166 : decode cX8_right 166 = .ok (.istore 5, 2) := by decide +kernel
theorem dX8_right_168 : decode cX8_right 168 = .ok (.iinc 6 1, 3) := by decide +kernel
theorem dX8_right_171 : decode cX8_right 171 = .ok (.goto (-89), 3) := by decide +kernel
theorem dX8_right_174 : decode cX8_right 174 = .ok (.iload_n 2, 1) := by decide +kernel
theorem dX8_right_175 : decode cX8_right 175 = .ok (.ifCond .ne 8, 3) := by decide +kernel
theorem dX8_right_178 : decode cX8_right 178 = .ok (.iload 4, 2) := by decide +kernel
theorem dX8_right_180 : decode cX8_right 180 = .ok (.goto 5, 3) := by decide +kernel
theorem dX8_right_183 : decode cX8_right 183 = .ok (.iload 5, 2) := by decide +kernel
theorem dX8_right_185 : decode cX8_right 185 = .ok (.ireturn, 1) := by decide +kernel
theorem dX8_telling_0 : decode cX8_telling 0 = .ok (.aload_n 0, 1) := by decide +kernel
theorem dX8_telling_1 : decode cX8_telling 1 = .ok (.getfield 29, 3) := by decide +kernel
theorem dX8_telling_4 : decode cX8_telling 4 = .ok (.aload_n 0, 1) := by decide +kernel
theorem dX8_telling_5 : decode cX8_telling 5 = .ok (.getfield 12, 3) := by decide +kernel
theorem dX8_telling_8 : decode cX8_telling 8 = .ok (.invokevirtual 175, 3) := by decide +kernel
theorem dX8_telling_11 : decode cX8_telling 11 = .ok (.aload_n 0, 1) := by decide +kernel
theorem dX8_telling_12 : decode cX8_telling 12 = .ok (.getfield 36, 3) := by decide +kernel
theorem dX8_telling_15 : decode cX8_telling 15 = .ok (.aload_n 0, 1) := by decide +kernel
theorem dX8_telling_16 : decode cX8_telling 16 = .ok (.getfield 29, 3) := by decide +kernel
theorem dX8_telling_19 : decode cX8_telling 19 = .ok (.getfield 202, 3) := by decide +kernel
theorem dX8_telling_22 : decode cX8_telling 22 = .ok (.invokevirtual 205, 3) := by decide +kernel
theorem dX8_telling_25 : decode cX8_telling 25 = .ok (.ireturn, 1) := by decide +kernel
theorem dX8_like_0 : decode cX8_like 0 = .ok (.iload_n 1, 1) := by decide +kernel
theorem dX8_like_1 : decode cX8_like 1 = .ok (.iconst 4, 1) := by decide +kernel
theorem dX8_like_2 : decode cX8_like 2 = .ok (.invokestatic 76, 3) := by decide +kernel
theorem dX8_like_5 : decode cX8_like 5 = .ok (.ifCond .eq 11, 3) := by decide +kernel
theorem dX8_like_8 : decode cX8_like 8 = .ok (.iload_n 2, 1) := by decide +kernel
theorem dX8_like_9 : decode cX8_like 9 = .ok (.iconst 2, 1) := by decide +kernel
theorem dX8_like_10 : decode cX8_like 10 = .ok (.invokestatic 76, 3) := by decide +kernel
theorem dX8_like_13 : decode cX8_like 13 = .ok (.ifCond .ne 6, 3) := by decide +kernel
theorem dX8_like_16 : decode cX8_like 16 = .ok (.ldc 80, 2) := by decide +kernel
theorem dX8_like_18 : decode cX8_like 18 = .ok (.ireturn, 1) := by decide +kernel
theorem dX8_like_19 : decode cX8_like 19 = .ok (.aload_n 0, 1) := by decide +kernel
theorem dX8_like_20 : decode cX8_like 20 = .ok (.getfield 64, 3) := by decide +kernel
theorem dX8_like_23 : decode cX8_like 23 = .ok (.iload_n 1, 1) := by decide +kernel
theorem dX8_like_24 : decode cX8_like 24 = .ok (.aaload, 1) := by decide +kernel
theorem dX8_like_25 : decode cX8_like 25 = .ok (.astore_n 3, 1) := by decide +kernel
theorem dX8_like_26 : decode cX8_like 26 = .ok (.aload_n 3, 1) := by decide +kernel
theorem dX8_like_27 : decode cX8_like 27 = .ok (.getfield 209, 3) := by decide +kernel
theorem dX8_like_30 : decode cX8_like 30 = .ok (.iconst (-1), 1) := by decide +kernel
theorem dX8_like_31 : decode cX8_like 31 = .ok (.if_icmp .ne 6, 3) := by decide +kernel
theorem dX8_like_34 : decode cX8_like 34 = .ok (.ldc 212, 2) := by decide +kernel
theorem dX8_like_36 : decode cX8_like 36 = .ok (.ireturn, 1) := by decide +kernel
theorem dX8_like_37 : decode cX8_like 37 = .ok (.aload_n 0, 1) := by decide +kernel
theorem dX8_like_38 : decode cX8_like 38 = .ok (.getfield 29, 3) := by decide +kernel
theorem dX8_like_41 : decode cX8_like 41 = .ok (.aload_n 0, 1) := by decide +kernel
theorem dX8_like_42 : decode cX8_like 42 = .ok (.getfield 12, 3) := by decide +kernel
theorem dX8_like_45 : decode cX8_like 45 = .ok (.invokevirtual 175, 3) := by decide +kernel
theorem dX8_like_48 : decode cX8_like 48 = .ok (.iconst 0, 1) := by decide +kernel
theorem dX8_like_49 : decode cX8_like 49 = .ok (.istore 4, 2) := by decide +kernel
theorem dX8_like_51 : decode cX8_like 51 = .ok (.aload_n 0, 1) := by decide +kernel
theorem dX8_like_52 : decode cX8_like 52 = .ok (.getfield 29, 3) := by decide +kernel
theorem dX8_like_55 : decode cX8_like 55 = .ok (.aload_n 3, 1) := by decide +kernel
theorem dX8_like_56 : decode cX8_like 56 = .ok (.iconst 0, 1) := by decide +kernel
theorem dX8_like_57 : decode cX8_like 57 = .ok (.invokevirtual 213, 3) := by decide +kernel
theorem dX8_like_60 : decode cX8_like 60 = .ok (.istore 5, 2) := by decide +kernel
theorem dX8_like_62 : decode cX8_like 62 = .ok (.iconst 1, 1) := by decide +kernel
theorem dX8_like_63 : decode cX8_like 63 = .ok (.istore 6, 2) := by decide +kernel
theorem dX8_like_65 : decode cX8_like 65 = .ok (.iload 6, 2) := by decide +kernel
theorem dX8_like_67 : decode cX8_like 67 = .ok (.sipush 720, 3) := by decide +kernel
theorem dX8_like_70 : decode cX8_like 70 = .ok (.if_icmp .ge 36, 3) := by decide +kernel
theorem dX8_like_73 : decode cX8_like 73 = .ok (.aload_n 0, 1) := by decide +kernel
theorem dX8_like_74 : decode cX8_like 74 = .ok (.getfield 29, 3) := by decide +kernel
theorem dX8_like_77 : decode cX8_like 77 = .ok (.aload_n 3, 1) := by decide +kernel
theorem dX8_like_78 : decode cX8_like 78 = .ok (.iload 6, 2) := by decide +kernel
theorem dX8_like_80 : decode cX8_like 80 = .ok (.invokevirtual 213, 3) := by decide +kernel
theorem dX8_like_83 : decode cX8_like 83 = .ok (.istore 7, 2) := by decide +kernel
theorem dX8_like_85 : decode cX8_like 85 = .ok (.iload 7, 2) := by decide +kernel
theorem dX8_like_87 : decode cX8_like 87 = .ok (.iload 5, 2) := by decide +kernel
theorem dX8_like_89 : decode cX8_like 89 = .ok (.if_icmp .ge 11, 3) := by decide +kernel
theorem dX8_like_92 : decode cX8_like 92 = .ok (.iload 6, 2) := by decide +kernel
theorem dX8_like_94 : decode cX8_like 94 = .ok (.istore 4, 2) := by decide +kernel
theorem dX8_like_96 : decode cX8_like 96 = .ok (.iload 7, 2) := by decide +kernel
theorem dX8_like_98 : decode cX8_like 98 = .ok (.istore 5, 2) := by decide +kernel
theorem dX8_like_100 : decode cX8_like 100 = .ok (.iinc 6 1, 3) := by decide +kernel
theorem dX8_like_103 : decode cX8_like 103 = .ok (.goto (-38), 3) := by decide +kernel
theorem dX8_like_106 : decode cX8_like 106 = .ok (.iload_n 2, 1) := by decide +kernel
theorem dX8_like_107 : decode cX8_like 107 = .ok (.ifCond .ne 8, 3) := by decide +kernel
theorem dX8_like_110 : decode cX8_like 110 = .ok (.iload 4, 2) := by decide +kernel
theorem dX8_like_112 : decode cX8_like 112 = .ok (.goto 5, 3) := by decide +kernel
theorem dX8_like_115 : decode cX8_like 115 = .ok (.iload 5, 2) := by decide +kernel
theorem dX8_like_117 : decode cX8_like 117 = .ok (.ireturn, 1) := by decide +kernel
theorem dX8_behind_0 : decode cX8_behind 0 = .ok (.iload_n 1, 1) := by decide +kernel
theorem dX8_behind_1 : decode cX8_behind 1 = .ok (.ifCond .lt 17, 3) := by decide +kernel
theorem dX8_behind_4 : decode cX8_behind 4 = .ok (.iload_n 1, 1) := by decide +kernel
theorem dX8_behind_5 : decode cX8_behind 5 = .ok (.bipush 100, 2) := by decide +kernel
theorem dX8_behind_7 : decode cX8_behind 7 = .ok (.if_icmp .gt 11, 3) := by decide +kernel
theorem dX8_behind_10 : decode cX8_behind 10 = .ok (.iload_n 2, 1) := by decide +kernel
theorem dX8_behind_11 : decode cX8_behind 11 = .ok (.iconst 4, 1) := by decide +kernel
theorem dX8_behind_12 : decode cX8_behind 12 = .ok (.invokestatic 76, 3) := by decide +kernel
theorem dX8_behind_15 : decode cX8_behind 15 = .ok (.ifCond .ne 6, 3) := by decide +kernel
theorem dX8_behind_18 : decode cX8_behind 18 = .ok (.ldc 80, 2) := by decide +kernel
theorem dX8_behind_20 : decode cX8_behind 20 = .ok (.ireturn, 1) := by decide +kernel
theorem dX8_behind_21 : decode cX8_behind 21 = .ok (.aload_n 0, 1) := by decide +kernel
theorem dX8_behind_22 : decode cX8_behind 22 = .ok (.getfield 19, 3) := by decide +kernel
theorem dX8_behind_25 : decode cX8_behind 25 = .ok (.aload_n 0, 1) := by decide +kernel
theorem dX8_behind_26 : decode cX8_behind 26 = .ok (.getfield 12, 3) := by decide +kernel
theorem dX8_behind_29 : decode cX8_behind 29 = .ok (.invokevirtual 217, 3) := by decide +kernel
theorem dX8_behind_32 : decode cX8_behind 32 = .ok (.aload_n 0, 1) := by decide +kernel
theorem dX8_behind_33 : decode cX8_behind 33 = .ok (.getfield 19, 3) := by decide +kernel
theorem dX8_behind_36 : decode cX8_behind 36 = .ok (.iload_n 1, 1) := by decide +kernel
theorem dX8_behind_37 : decode cX8_behind 37 = .ok (.invokevirtual 155, 3) := by decide +kernel
theorem dX8_behind_40 : decode cX8_behind 40 = .ok (.iload_n 2, 1) := by decide +kernel
theorem dX8_behind_41 : decode cX8_behind 41 = .ok (.iconst 3, 1) := by decide +kernel
theorem dX8_behind_42 : decode cX8_behind 42 = .ok (.if_icmp .eq 12, 3) := by decide +kernel
theorem dX8_behind_45 : decode cX8_behind 45 = .ok (.aload_n 0, 1) := by decide +kernel
theorem dX8_behind_46 : decode cX8_behind 46 = .ok (.getfield 19, 3) := by decide +kernel
theorem dX8_behind_49 : decode cX8_behind 49 = .ok (.iload_n 2, 1) := by decide +kernel
theorem dX8_behind_50 : decode cX8_behind 50 = .ok (.invokevirtual 162, 3) := by decide +kernel
theorem dX8_behind_53 : decode cX8_behind 53 = .ok (.ireturn, 1) := by decide +kernel
theorem dX8_behind_54 : decode cX8_behind 54 = .ok (.aload_n 0, 1) := by decide +kernel
theorem dX8_behind_55 : decode cX8_behind 55 = .ok (.getfield 29, 3) := by decide +kernel
theorem dX8_behind_58 : decode cX8_behind 58 = .ok (.aload_n 0, 1) := by decide +kernel
theorem dX8_behind_59 : decode cX8_behind 59 = .ok (.getfield 19, 3) := by decide +kernel
theorem dX8_behind_62 : decode cX8_behind 62 = .ok (.invokevirtual 175, 3) := by decide +kernel
theorem dX8_behind_65 : decode cX8_behind 65 = .ok (.aload_n 0, 1) := by decide +kernel
theorem dX8_behind_66 : decode cX8_behind 66 = .ok (.getfield 29, 3) := by decide +kernel
theorem dX8_behind_69 : decode cX8_behind 69 = .ok (.aload_n 0, 1) := by decide +kernel
theorem dX8_behind_70 : decode cX8_behind 70 = .ok (.getfield 19, 3) := by decide +kernel
theorem dX8_behind_73 : decode cX8_behind 73 = .ok (.invokevirtual 179, 3) := by decide +kernel
theorem dX8_behind_76 : decode cX8_behind 76 = .ok (.aload_n 0, 1) := by decide +kernel
theorem dX8_behind_77 : decode cX8_behind 77 = .ok (.getfield 29, 3) := by decide +kernel
theorem dX8_behind_80 : decode cX8_behind 80 = .ok (.invokevirtual 182, 3) := by decide +kernel
theorem dX8_behind_83 : decode cX8_behind 83 = .ok (.aload_n 0, 1) := by decide +kernel
theorem dX8_behind_84 : decode cX8_behind 84 = .ok (.getfield 29, 3) := by decide +kernel
theorem dX8_behind_87 : decode cX8_behind 87 = .ok (.getfield 185, 3) := by decide +kernel
theorem dX8_behind_90 : decode cX8_behind 90 = .ok (.ireturn, 1) := by decide +kernel
theorem dX8_listen_0 : decode cX8_listen 0 = .ok (.aload_n 0, 1) := by decide +kernel
theorem dX8_listen_1 : decode cX8_listen 1 = .ok (.getfield 19, 3) := by decide +kernel
theorem dX8_listen_4 : decode cX8_listen 4 = .ok (.aload_n 0, 1) := by decide +kernel
theorem dX8_listen_5 : decode cX8_listen 5 = .ok (.getfield 12, 3) := by decide +kernel
theorem dX8_listen_8 : decode cX8_listen 8 = .ok (.invokevirtual 217, 3) := by decide +kernel
theorem dX8_listen_11 : decode cX8_listen 11 = .ok (.aload_n 0, 1) := by decide +kernel
theorem dX8_listen_12 : decode cX8_listen 12 = .ok (.getfield 29, 3) := by decide +kernel
theorem dX8_listen_15 : decode cX8_listen 15 = .ok (.aload_n 0, 1) := by decide +kernel
theorem dX8_listen_16 : decode cX8_listen 16 = .ok (.getfield 19, 3) := by decide +kernel
theorem dX8_listen_19 : decode cX8_listen 19 = .ok (.invokevirtual 175, 3) := by decide +kernel
theorem dX8_listen_22 : decode cX8_listen 22 = .ok (.iconst 0, 1) := by decide +kernel
theorem dX8_listen_23 : decode cX8_listen 23 = .ok (.istore_n 1, 1) := by decide +kernel
theorem dX8_listen_24 : decode cX8_listen 24 = .ok (.iload_n 1, 1) := by decide +kernel
theorem dX8_listen_25 : decode cX8_listen 25 = .ok (.bipush 60, 2) := by decide +kernel
theorem dX8_listen_27 : decode cX8_listen 27 = .ok (.if_icmp .gt 47, 3) := by decide +kernel
theorem dX8_listen_30 : decode cX8_listen 30 = .ok (.aload_n 0, 1) := by decide +kernel
theorem dX8_listen_31 : decode cX8_listen 31 = .ok (.getfield 29, 3) := by decide +kernel
theorem dX8_listen_34 : decode cX8_listen 34 = .ok (.aload_n 0, 1) := by decide +kernel
theorem dX8_listen_35 : decode cX8_listen 35 = .ok (.getfield 19, 3) := by decide +kernel
theorem dX8_listen_38 : decode cX8_listen 38 = .ok (.invokevirtual 179, 3) := by decide +kernel
theorem dX8_listen_41 : decode cX8_listen 41 = .ok (.aload_n 0, 1) := by decide +kernel
theorem dX8_listen_42 : decode cX8_listen 42 = .ok (.getfield 29, 3) := by decide +kernel
theorem dX8_listen_45 : decode cX8_listen 45 = .ok (.invokevirtual 182, 3) := by decide +kernel
theorem dX8_listen_48 : decode cX8_listen 48 = .ok (.aload_n 0, 1) := by decide +kernel
theorem dX8_listen_49 : decode cX8_listen 49 = .ok (.getfield 29, 3) := by decide +kernel
theorem dX8_listen_52 : decode cX8_listen 52 = .ok (.invokevirtual 194, 3) := by decide +kernel
theorem dX8_listen_55 : decode cX8_listen 55 = .ok (.ifCond .eq 5, 3) := by decide +kernel
theorem dX8_listen_58 : decode cX8_listen 58 = .ok (.iload_n 1, 1) := by decide +kernel
theorem dX8_listen_59 : decode cX8_listen 59 = .ok (.ireturn, 1) := by decide +kernel
theorem dX8_listen_60 : decode cX8_listen 60 = .ok (.aload_n 0, 1) := by decide +kernel
theorem dX8_listen_61 : decode cX8_listen 61 = .ok (.getfield 19, 3) := by decide +kernel
theorem dX8_listen_64 : decode cX8_listen 64 = .ok (.iconst 1, 1) := by decide +kernel
theorem dX8_listen_65 : decode cX8_listen 65 = .ok (.invokevirtual 155, 3) := by decide +kernel
theorem dX8_listen_68 : decode cX8_listen 68 = .ok (.iinc 1 1, 3) := by decide +kernel
theorem dX8_listen_71 : decode cX8_listen 71 = .ok (.goto (-47), 3) := by decide +kernel
theorem dX8_listen_74 : decode cX8_listen 74 = .ok (.ldc 168, 2) := by decide +kernel
theorem dX8_listen_76 : decode cX8_listen 76 = .ok (.ireturn, 1) := by decide +kernel
theorem dX8_fee_0 : decode cX8_fee 0 = .ok (.aload_n 0, 1) := by decide +kernel
theorem dX8_fee_1 : decode cX8_fee 1 = .ok (.getfield 12, 3) := by decide +kernel
theorem dX8_fee_4 : decode cX8_fee 4 = .ok (.iconst 1, 1) := by decide +kernel
theorem dX8_fee_5 : decode cX8_fee 5 = .ok (.invokevirtual 220, 3) := by decide +kernel
theorem dX8_fee_8 : decode cX8_fee 8 = .ok (.astore_n 1, 1) := by decide +kernel
theorem dX8_fee_9 : decode cX8_fee 9 = .ok (.aload_n 1, 1) := by decide +kernel
theorem dX8_fee_10 : decode cX8_fee 10 = .ok (.ifnonnull 13, 3) := by decide +kernel
theorem dX8_fee_13 : decode cX8_fee 13 = .ok (.aload_n 0, 1) := by decide +kernel
theorem dX8_fee_14 : decode cX8_fee 14 = .ok (.getfield 12, 3) := by decide +kernel
theorem dX8_fee_17 : decode cX8_fee 17 = .ok (.getfield 149, 3) := by decide +kernel
theorem dX8_fee_20 : decode cX8_fee 20 = .ok (.goto 22, 3) := by decide +kernel
theorem dX8_fee_23 : decode cX8_fee 23 = .ok (.aload_n 1, 1) := by decide +kernel
theorem dX8_fee_24 : decode cX8_fee 24 = .ok (.aload_n 0, 1) := by decide +kernel
theorem dX8_fee_25 : decode cX8_fee 25 = .ok (.getfield 12, 3) := by decide +kernel
theorem dX8_fee_28 : decode cX8_fee 28 = .ok (.getfield 149, 3) := by decide +kernel
theorem dX8_fee_31 : decode cX8_fee 31 = .ok (.aload_n 0, 1) := by decide +kernel
theorem dX8_fee_32 : decode cX8_fee 32 = .ok (.getfield 12, 3) := by decide +kernel
theorem dX8_fee_35 : decode cX8_fee 35 = .ok (.getfield 224, 3) := by decide +kernel
theorem dX8_fee_38 : decode cX8_fee 38 = .ok (.iconst 0, 1) := by decide +kernel
theorem dX8_fee_39 : decode cX8_fee 39 = .ok (.invokevirtual 227, 3) := by decide +kernel
theorem dX8_fee_42 : decode cX8_fee 42 = .ok (.ireturn, 1) := by decide +kernel
theorem dX8_fine_0 : decode cX8_fine 0 = .ok (.aload_n 0, 1) := by decide +kernel
theorem dX8_fine_1 : decode cX8_fine 1 = .ok (.getfield 12, 3) := by decide +kernel
theorem dX8_fine_4 : decode cX8_fine 4 = .ok (.iload_n 1, 1) := by decide +kernel
theorem dX8_fine_5 : decode cX8_fine 5 = .ok (.invokevirtual 89, 3) := by decide +kernel
theorem dX8_fine_8 : decode cX8_fine 8 = .ok (.ifCond .ne 6, 3) := by decide +kernel
theorem dX8_fine_11 : decode cX8_fine 11 = .ok (.ldc 80, 2) := by decide +kernel
theorem dX8_fine_13 : decode cX8_fine 13 = .ok (.ireturn, 1) := by decide +kernel
theorem dX8_fine_14 : decode cX8_fine 14 = .ok (.aload_n 0, 1) := by decide +kernel
theorem dX8_fine_15 : decode cX8_fine 15 = .ok (.getfield 12, 3) := by decide +kernel
theorem dX8_fine_18 : decode cX8_fine 18 = .ok (.getfield 93, 3) := by decide +kernel
theorem dX8_fine_21 : decode cX8_fine 21 = .ok (.iload_n 1, 1) := by decide +kernel
theorem dX8_fine_22 : decode cX8_fine 22 = .ok (.aaload, 1) := by decide +kernel
theorem dX8_fine_23 : decode cX8_fine 23 = .ok (.astore_n 2, 1) := by decide +kernel
theorem dX8_fine_24 : decode cX8_fine 24 = .ok (.aload_n 0, 1) := by decide +kernel
theorem dX8_fine_25 : decode cX8_fine 25 = .ok (.getfield 12, 3) := by decide +kernel
theorem dX8_fine_28 : decode cX8_fine 28 = .ok (.iconst 2, 1) := by decide +kernel
theorem dX8_fine_29 : decode cX8_fine 29 = .ok (.invokevirtual 220, 3) := by decide +kernel
theorem dX8_fine_32 : decode cX8_fine 32 = .ok (.astore_n 3, 1) := by decide +kernel
theorem dX8_fine_33 : decode cX8_fine 33 = .ok (.aload_n 3, 1) := by decide +kernel
theorem dX8_fine_34 : decode cX8_fine 34 = .ok (.ifnonnull 10, 3) := by decide +kernel
theorem dX8_fine_37 : decode cX8_fine 37 = .ok (.aload_n 2, 1) := by decide +kernel
theorem dX8_fine_38 : decode cX8_fine 38 = .ok (.getfield 102, 3) := by decide +kernel
theorem dX8_fine_41 : decode cX8_fine 41 = .ok (.goto 16, 3) := by decide +kernel
theorem dX8_fine_44 : decode cX8_fine 44 = .ok (.aload_n 3, 1) := by decide +kernel
theorem dX8_fine_45 : decode cX8_fine 45 = .ok (.aload_n 2, 1) := by decide +kernel
theorem dX8_fine_46 : decode cX8_fine 46 = .ok (.getfield 102, 3) := by decide +kernel
theorem dX8_fine_49 : decode cX8_fine 49 = .ok (.aload_n 2, 1) := by decide +kernel
theorem dX8_fine_50 : decode cX8_fine 50 = .ok (.getfield 105, 3) := by decide +kernel
theorem dX8_fine_53 : decode cX8_fine 53 = .ok (.iconst 0, 1) := by decide +kernel
theorem dX8_fine_54 : decode cX8_fine 54 = .ok (.invokevirtual 227, 3) := by decide +kernel
theorem dX8_fine_57 : decode cX8_fine 57 = .ok (.ireturn, 1) := by decide +kernel
theorem dX8_feed_0 : decode cX8_feed 0 = .ok (.aload_n 0, 1) := by decide +kernel
theorem dX8_feed_1 : decode cX8_feed 1 = .ok (.getfield 51, 3) := by decide +kernel
theorem dX8_feed_4 : decode cX8_feed 4 = .ok (.bipush 12, 2) := by decide +kernel
theorem dX8_feed_6 : decode cX8_feed 6 = .ok (.iadd, 1) := by decide +kernel
theorem dX8_feed_7 : decode cX8_feed 7 = .ok (.bipush 96, 2) := by decide +kernel
theorem dX8_feed_9 : decode cX8_feed 9 = .ok (.if_icmp .le 6, 3) := by decide +kernel
theorem dX8_feed_12 : decode cX8_feed 12 = .ok (.ldc 84, 2) := by decide +kernel
theorem dX8_feed_14 : decode cX8_feed 14 = .ok (.ireturn, 1) := by decide +kernel
theorem dX8_feed_15 : decode cX8_feed 15 = .ok (.aload_n 0, 1) := by decide +kernel
theorem dX8_feed_16 : decode cX8_feed 16 = .ok (.iload_n 1, 1) := by decide +kernel
theorem dX8_feed_17 : decode cX8_feed 17 = .ok (.invokevirtual 233, 3) := by decide +kernel
theorem dX8_feed_20 : decode cX8_feed 20 = .ok (.aload_n 0, 1) := by decide +kernel
theorem dX8_feed_21 : decode cX8_feed 21 = .ok (.iload_n 2, 1) := by decide +kernel
theorem dX8_feed_22 : decode cX8_feed 22 = .ok (.invokevirtual 233, 3) := by decide +kernel
theorem dX8_feed_25 : decode cX8_feed 25 = .ok (.aload_n 0, 1) := by decide +kernel
theorem dX8_feed_26 : decode cX8_feed 26 = .ok (.iload_n 3, 1) := by decide +kernel
theorem dX8_feed_27 : decode cX8_feed 27 = .ok (.invokevirtual 233, 3) := by decide +kernel
theorem dX8_feed_30 : decode cX8_feed 30 = .ok (.aload_n 0, 1) := by decide +kernel
theorem dX8_feed_31 : decode cX8_feed 31 = .ok (.getfield 51, 3) := by decide +kernel
theorem dX8_feed_34 : decode cX8_feed 34 = .ok (.ireturn, 1) := by decide +kernel
theorem dX8_trim_0 : decode cX8_trim 0 = .ok (.iload_n 1, 1) := by decide +kernel
theorem dX8_trim_1 : decode cX8_trim 1 = .ok (.ifCond .lt 11, 3) := by decide +kernel
theorem dX8_trim_4 : decode cX8_trim 4 = .ok (.iload_n 1, 1) := by decide +kernel
theorem dX8_trim_5 : decode cX8_trim 5 = .ok (.aload_n 0, 1) := by decide +kernel
theorem dX8_trim_6 : decode cX8_trim 6 = .ok (.getfield 51, 3) := by decide +kernel
theorem dX8_trim_9 : decode cX8_trim 9 = .ok (.if_icmp .le 6, 3) := by decide +kernel
theorem dX8_trim_12 : decode cX8_trim 12 = .ok (.ldc 80, 2) := by decide +kernel
theorem dX8_trim_14 : decode cX8_trim 14 = .ok (.ireturn, 1) := by decide +kernel
theorem dX8_trim_15 : decode cX8_trim 15 = .ok (.aload_n 0, 1) := by decide +kernel
theorem dX8_trim_16 : decode cX8_trim 16 = .ok (.iload_n 1, 1) := by decide +kernel
theorem dX8_trim_17 : decode cX8_trim 17 = .ok (.putfield 51, 3) := by decide +kernel
theorem dX8_trim_20 : decode cX8_trim 20 = .ok (.iload_n 1, 1) := by decide +kernel
theorem dX8_trim_21 : decode cX8_trim 21 = .ok (.ireturn, 1) := by decide +kernel
theorem dX8_text_0 : decode cX8_text 0 = .ok (.aload_n 0, 1) := by decide +kernel
theorem dX8_text_1 : decode cX8_text 1 = .ok (.getfield 51, 3) := by decide +kernel
theorem dX8_text_4 : decode cX8_text 4 = .ok (.istore_n 1, 1) := by decide +kernel
theorem dX8_text_5 : decode cX8_text 5 = .ok (.aload_n 0, 1) := by decide +kernel
theorem dX8_text_6 : decode cX8_text 6 = .ok (.iconst 0, 1) := by decide +kernel
theorem dX8_text_7 : decode cX8_text 7 = .ok (.putfield 51, 3) := by decide +kernel
theorem dX8_text_10 : decode cX8_text 10 = .ok (.aload_n 0, 1) := by decide +kernel
theorem dX8_text_11 : decode cX8_text 11 = .ok (.getfield 43, 3) := by decide +kernel
theorem dX8_text_14 : decode cX8_text 14 = .ok (.aload_n 0, 1) := by decide +kernel
theorem dX8_text_15 : decode cX8_text 15 = .ok (.getfield 47, 3) := by decide +kernel
theorem dX8_text_18 : decode cX8_text 18 = .ok (.iload_n 1, 1) := by decide +kernel
theorem dX8_text_19 : decode cX8_text 19 = .ok (.invokevirtual 236, 3) := by decide +kernel
theorem dX8_text_22 : decode cX8_text 22 = .ok (.ifCond .ne 14, 3) := by decide +kernel
theorem dX8_text_25 : decode cX8_text 25 = .ok (.bipush (-100), 2) := by decide +kernel
theorem dX8_text_27 : decode cX8_text 27 = .ok (.aload_n 0, 1) := by decide +kernel
theorem dX8_text_28 : decode cX8_text 28 = .ok (.getfield 43, 3) := by decide +kernel
theorem dX8_text_31 : decode cX8_text 31 = .ok (.getfield 240, 3) := by decide +kernel
theorem dX8_text_34 : decode cX8_text 34 = .ok (.isub, 1) := by decide +kernel
theorem dX8_text_35 : decode cX8_text 35 = .ok (.ireturn, 1) := by decide +kernel
theorem dX8_text_36 : decode cX8_text 36 = .ok (.aload_n 0, 1) := by decide +kernel
theorem dX8_text_37 : decode cX8_text 37 = .ok (.getfield 12, 3) := by decide +kernel
theorem dX8_text_40 : decode cX8_text 40 = .ok (.getfield 243, 3) := by decide +kernel
theorem dX8_text_43 : decode cX8_text 43 = .ok (.bipush 14, 2) := by decide +kernel
theorem dX8_text_45 : decode cX8_text 45 = .ok (.if_icmp .lt 6, 3) := by decide +kernel
theorem dX8_text_48 : decode cX8_text 48 = .ok (.ldc 84, 2) := by decide +kernel
theorem dX8_text_50 : decode cX8_text 50 = .ok (.ireturn, 1) := by decide +kernel
theorem dX8_text_51 : decode cX8_text 51 = .ok (.aload_n 0, 1) := by decide +kernel
theorem dX8_text_52 : decode cX8_text 52 = .ok (.getfield 12, 3) := by decide +kernel
theorem dX8_text_55 : decode cX8_text 55 = .ok (.aload_n 0, 1) := by decide +kernel
theorem dX8_text_56 : decode cX8_text 56 = .ok (.getfield 43, 3) := by decide +kernel
theorem dX8_text_59 : decode cX8_text 59 = .ok (.invokevirtual 246, 3) := by decide +kernel
theorem dX8_text_62 : decode cX8_text 62 = .ok (.invokevirtual 250, 3) := by decide +kernel
theorem dX8_text_65 : decode cX8_text 65 = .ok (.aload_n 0, 1) := by decide +kernel
theorem dX8_text_66 : decode cX8_text 66 = .ok (.getfield 12, 3) := by decide +kernel
theorem dX8_text_69 : decode cX8_text 69 = .ok (.getfield 243, 3) := by decide +kernel
theorem dX8_text_72 : decode cX8_text 72 = .ok (.iconst 1, 1) := by decide +kernel
theorem dX8_text_73 : decode cX8_text 73 = .ok (.isub, 1) := by decide +kernel
theorem dX8_text_74 : decode cX8_text 74 = .ok (.ireturn, 1) := by decide +kernel
theorem dX8_textTold_0 : decode cX8_textTold 0 = .ok (.aload_n 0, 1) := by decide +kernel
theorem dX8_textTold_1 : decode cX8_textTold 1 = .ok (.getfield 12, 3) := by decide +kernel
theorem dX8_textTold_4 : decode cX8_textTold 4 = .ok (.iload_n 1, 1) := by decide +kernel
theorem dX8_textTold_5 : decode cX8_textTold 5 = .ok (.invokevirtual 254, 3) := by decide +kernel
theorem dX8_textTold_8 : decode cX8_textTold 8 = .ok (.astore_n 3, 1) := by decide +kernel
theorem dX8_textTold_9 : decode cX8_textTold 9 = .ok (.aload_n 3, 1) := by decide +kernel
theorem dX8_textTold_10 : decode cX8_textTold 10 = .ok (.ifnull 11, 3) := by decide +kernel
theorem dX8_textTold_13 : decode cX8_textTold 13 = .ok (.iload_n 2, 1) := by decide +kernel
theorem dX8_textTold_14 : decode cX8_textTold 14 = .ok (.iconst 2, 1) := by decide +kernel
theorem dX8_textTold_15 : decode cX8_textTold 15 = .ok (.invokestatic 76, 3) := by decide +kernel
theorem dX8_textTold_18 : decode cX8_textTold 18 = .ok (.ifCond .ne 6, 3) := by decide +kernel
theorem dX8_textTold_21 : decode cX8_textTold 21 = .ok (.ldc 80, 2) := by decide +kernel
theorem dX8_textTold_23 : decode cX8_textTold 23 = .ok (.ireturn, 1) := by decide +kernel
theorem dX8_textTold_24 : decode cX8_textTold 24 = .ok (.iload_n 2, 1) := by decide +kernel
theorem dX8_textTold_25 : decode cX8_textTold 25 = .ok (.ifCond .ne 10, 3) := by decide +kernel
theorem dX8_textTold_28 : decode cX8_textTold 28 = .ok (.aload_n 3, 1) := by decide +kernel
theorem dX8_textTold_29 : decode cX8_textTold 29 = .ok (.getfield 257, 3) := by decide +kernel
theorem dX8_textTold_32 : decode cX8_textTold 32 = .ok (.goto 7, 3) := by decide +kernel
theorem dX8_textTold_35 : decode cX8_textTold 35 = .ok (.aload_n 3, 1) := by decide +kernel
theorem dX8_textTold_36 : decode cX8_textTold 36 = .ok (.getfield 260, 3) := by decide +kernel
theorem dX8_textTold_39 : decode cX8_textTold 39 = .ok (.ireturn, 1) := by decide +kernel
theorem dX8_why_0 : decode cX8_why 0 = .ok (.iload_n 1, 1) := by decide +kernel
theorem dX8_why_1 : decode cX8_why 1 = .ok (.iconst 3, 1) := by decide +kernel
theorem dX8_why_2 : decode cX8_why 2 = .ok (.invokestatic 76, 3) := by decide +kernel
theorem dX8_why_5 : decode cX8_why 5 = .ok (.ifCond .eq 15, 3) := by decide +kernel
theorem dX8_why_8 : decode cX8_why 8 = .ok (.aload_n 0, 1) := by decide +kernel
theorem dX8_why_9 : decode cX8_why 9 = .ok (.getfield 12, 3) := by decide +kernel
theorem dX8_why_12 : decode cX8_why 12 = .ok (.getfield 263, 3) := by decide +kernel
theorem dX8_why_15 : decode cX8_why 15 = .ok (.iload_n 1, 1) := by decide +kernel
theorem dX8_why_16 : decode cX8_why 16 = .ok (.iaload, 1) := by decide +kernel
theorem dX8_why_17 : decode cX8_why 17 = .ok (.goto 5, 3) := by decide +kernel
theorem dX8_why_20 : decode cX8_why 20 = .ok (.ldc 80, 2) := by decide +kernel
theorem dX8_why_22 : decode cX8_why 22 = .ok (.ireturn, 1) := by decide +kernel
theorem dX8_sheet_0 : decode cX8_sheet 0 = .ok (.iload_n 1, 1) := by decide +kernel
theorem dX8_sheet_1 : decode cX8_sheet 1 = .ok (.iconst 4, 1) := by decide +kernel
theorem dX8_sheet_2 : decode cX8_sheet 2 = .ok (.invokestatic 76, 3) := by decide +kernel
theorem dX8_sheet_5 : decode cX8_sheet 5 = .ok (.ifCond .eq 13, 3) := by decide +kernel
theorem dX8_sheet_8 : decode cX8_sheet 8 = .ok (.iload_n 2, 1) := by decide +kernel
theorem dX8_sheet_9 : decode cX8_sheet 9 = .ok (.iconst (-1), 1) := by decide +kernel
theorem dX8_sheet_10 : decode cX8_sheet 10 = .ok (.if_icmp .lt 8, 3) := by decide +kernel
theorem dX8_sheet_13 : decode cX8_sheet 13 = .ok (.iload_n 2, 1) := by decide +kernel
theorem dX8_sheet_14 : decode cX8_sheet 14 = .ok (.iconst 1, 1) := by decide +kernel
theorem dX8_sheet_15 : decode cX8_sheet 15 = .ok (.if_icmp .le 6, 3) := by decide +kernel
theorem dX8_sheet_18 : decode cX8_sheet 18 = .ok (.ldc 80, 2) := by decide +kernel
theorem dX8_sheet_20 : decode cX8_sheet 20 = .ok (.ireturn, 1) := by decide +kernel
theorem dX8_sheet_21 : decode cX8_sheet 21 = .ok (.iload_n 2, 1) := by decide +kernel
theorem dX8_sheet_22 : decode cX8_sheet 22 = .ok (.iconst (-1), 1) := by decide +kernel
theorem dX8_sheet_23 : decode cX8_sheet 23 = .ok (.if_icmp .ne 16, 3) := by decide +kernel
theorem dX8_sheet_26 : decode cX8_sheet 26 = .ok (.aload_n 0, 1) := by decide +kernel
theorem dX8_sheet_27 : decode cX8_sheet 27 = .ok (.getfield 64, 3) := by decide +kernel
theorem dX8_sheet_30 : decode cX8_sheet 30 = .ok (.iload_n 1, 1) := by decide +kernel
theorem dX8_sheet_31 : decode cX8_sheet 31 = .ok (.aaload, 1) := by decide +kernel
theorem dX8_sheet_32 : decode cX8_sheet 32 = .ok (.iconst (-1), 1) := by decide +kernel
theorem dX8_sheet_33 : decode cX8_sheet 33 = .ok (.iconst 0, 1) := by decide +kernel
theorem dX8_sheet_34 : decode cX8_sheet 34 = .ok (.invokevirtual 266, 3) := by decide +kernel
theorem dX8_sheet_37 : decode cX8_sheet 37 = .ok (.iconst 0, 1) := by decide +kernel
theorem dX8_sheet_38 : decode cX8_sheet 38 = .ok (.ireturn, 1) := by decide +kernel
theorem dX8_sheet_39 : decode cX8_sheet 39 = .ok (.iload_n 3, 1) := by decide +kernel
theorem dX8_sheet_40 : decode cX8_sheet 40 = .ok (.bipush 24, 2) := by decide +kernel
theorem dX8_sheet_42 : decode cX8_sheet 42 = .ok (.if_icmp .le 6, 3) := by decide +kernel
theorem dX8_sheet_45 : decode cX8_sheet 45 = .ok (.ldc 80, 2) := by decide +kernel
theorem dX8_sheet_47 : decode cX8_sheet 47 = .ok (.ireturn, 1) := by decide +kernel
theorem dX8_sheet_48 : decode cX8_sheet 48 = .ok (.iload_n 3, 1) := by decide +kernel
theorem dX8_sheet_49 : decode cX8_sheet 49 = .ok (.ifCond .ge 7, 3) := by decide +kernel
theorem dX8_sheet_52 : decode cX8_sheet 52 = .ok (.ldc_w 270, 3) := by decide +kernel
theorem dX8_sheet_55 : decode cX8_sheet 55 = .ok (.ireturn, 1) := by decide +kernel
theorem dX8_sheet_56 : decode cX8_sheet 56 = .ok (.aload_n 0, 1) := by decide +kernel
theorem dX8_sheet_57 : decode cX8_sheet 57 = .ok (.getfield 64, 3) := by decide +kernel
theorem dX8_sheet_60 : decode cX8_sheet 60 = .ok (.iload_n 1, 1) := by decide +kernel
theorem dX8_sheet_61 : decode cX8_sheet 61 = .ok (.aaload, 1) := by decide +kernel
theorem dX8_sheet_62 : decode cX8_sheet 62 = .ok (.iload_n 2, 1) := by decide +kernel
theorem dX8_sheet_63 : decode cX8_sheet 63 = .ok (.iload_n 3, 1) := by decide +kernel
theorem dX8_sheet_64 : decode cX8_sheet 64 = .ok (.invokevirtual 266, 3) := by decide +kernel
theorem dX8_sheet_67 : decode cX8_sheet 67 = .ok (.iload_n 3, 1) := by decide +kernel
theorem dX8_sheet_68 : decode cX8_sheet 68 = .ok (.ireturn, 1) := by decide +kernel
theorem dX8_mark_0 : decode cX8_mark 0 = .ok (.iload_n 1, 1) := by decide +kernel
theorem dX8_mark_1 : decode cX8_mark 1 = .ok (.iconst 4, 1) := by decide +kernel
theorem dX8_mark_2 : decode cX8_mark 2 = .ok (.invokestatic 76, 3) := by decide +kernel
theorem dX8_mark_5 : decode cX8_mark 5 = .ok (.ifCond .ne 6, 3) := by decide +kernel
theorem dX8_mark_8 : decode cX8_mark 8 = .ok (.ldc 80, 2) := by decide +kernel
theorem dX8_mark_10 : decode cX8_mark 10 = .ok (.ireturn, 1) := by decide +kernel
theorem dX8_mark_11 : decode cX8_mark 11 = .ok (.aload_n 0, 1) := by decide +kernel
theorem dX8_mark_12 : decode cX8_mark 12 = .ok (.getfield 64, 3) := by decide +kernel
theorem dX8_mark_15 : decode cX8_mark 15 = .ok (.iload_n 1, 1) := by decide +kernel
theorem dX8_mark_16 : decode cX8_mark 16 = .ok (.aaload, 1) := by decide +kernel
theorem dX8_mark_17 : decode cX8_mark 17 = .ok (.astore 4, 2) := by decide +kernel
theorem dX8_mark_19 : decode cX8_mark 19 = .ok (.aload 4, 2) := by decide +kernel
theorem dX8_mark_21 : decode cX8_mark 21 = .ok (.getfield 209, 3) := by decide +kernel
theorem dX8_mark_24 : decode cX8_mark 24 = .ok (.iconst (-1), 1) := by decide +kernel
theorem dX8_mark_25 : decode cX8_mark 25 = .ok (.if_icmp .ne 6, 3) := by decide +kernel
theorem dX8_mark_28 : decode cX8_mark 28 = .ok (.ldc 212, 2) := by decide +kernel
theorem dX8_mark_30 : decode cX8_mark 30 = .ok (.ireturn, 1) := by decide +kernel
theorem dX8_mark_31 : decode cX8_mark 31 = .ok (.iload_n 2, 1) := by decide +kernel
theorem dX8_mark_32 : decode cX8_mark 32 = .ok (.aload 4, 2) := by decide +kernel
theorem dX8_mark_34 : decode cX8_mark 34 = .ok (.getfield 271, 3) := by decide +kernel
theorem dX8_mark_37 : decode cX8_mark 37 = .ok (.invokestatic 76, 3) := by decide +kernel
theorem dX8_mark_40 : decode cX8_mark 40 = .ok (.ifCond .ne 7, 3) := by decide +kernel
theorem dX8_mark_43 : decode cX8_mark 43 = .ok (.ldc_w 274, 3) := by decide +kernel
theorem dX8_mark_46 : decode cX8_mark 46 = .ok (.ireturn, 1) := by decide +kernel
theorem dX8_mark_47 : decode cX8_mark 47 = .ok (.aload 4, 2) := by decide +kernel
theorem dX8_mark_49 : decode cX8_mark 49 = .ok (.getfield 209, 3) := by decide +kernel
theorem dX8_mark_52 : decode cX8_mark 52 = .ok (.ifCond .ne 23, 3) := by decide +kernel
theorem dX8_mark_55 : decode cX8_mark 55 = .ok (.iload_n 3, 1) := by decide +kernel
theorem dX8_mark_56 : decode cX8_mark 56 = .ok (.ldc 168, 2) := by decide +kernel
theorem dX8_mark_58 : decode cX8_mark 58 = .ok (.if_icmp .ne 6, 3) := by decide +kernel
theorem dX8_mark_61 : decode cX8_mark 61 = .ok (.ldc 126, 2) := by decide +kernel
theorem dX8_mark_63 : decode cX8_mark 63 = .ok (.ireturn, 1) := by decide +kernel
theorem dX8_mark_64 : decode cX8_mark 64 = .ok (.aload 4, 2) := by decide +kernel
theorem dX8_mark_66 : decode cX8_mark 66 = .ok (.getfield 275, 3) := by decide +kernel
theorem dX8_mark_69 : decode cX8_mark 69 = .ok (.iload_n 2, 1) := by decide +kernel
theorem dX8_mark_70 : decode cX8_mark 70 = .ok (.iload_n 3, 1) := by decide +kernel
theorem dX8_mark_71 : decode cX8_mark 71 = .ok (.i2s, 1) := by decide +kernel
theorem dX8_mark_72 : decode cX8_mark 72 = .ok (.iastore, 1) := by decide +kernel
theorem dX8_mark_73 : decode cX8_mark 73 = .ok (.iconst 1, 1) := by decide +kernel
theorem dX8_mark_74 : decode cX8_mark 74 = .ok (.ireturn, 1) := by decide +kernel
theorem dX8_mark_75 : decode cX8_mark 75 = .ok (.iload_n 3, 1) := by decide +kernel
theorem dX8_mark_76 : decode cX8_mark 76 = .ok (.ldc 168, 2) := by decide +kernel
theorem dX8_mark_78 : decode cX8_mark 78 = .ok (.if_icmp .eq 20, 3) := by decide +kernel
theorem dX8_mark_81 : decode cX8_mark 81 = .ok (.iload_n 3, 1) := by decide +kernel
theorem dX8_mark_82 : decode cX8_mark 82 = .ok (.ldc_w 278, 3) := by decide +kernel
theorem dX8_mark_85 : decode cX8_mark 85 = .ok (.if_icmp .lt 10, 3) := by decide +kernel
theorem dX8_mark_88 : decode cX8_mark 88 = .ok (.iload_n 3, 1) := by decide +kernel
theorem dX8_mark_89 : decode cX8_mark 89 = .ok (.ldc_w 279, 3) := by decide +kernel
theorem dX8_mark_92 : decode cX8_mark 92 = .ok (.if_icmp .le 6, 3) := by decide +kernel
theorem dX8_mark_95 : decode cX8_mark 95 = .ok (.ldc 80, 2) := by decide +kernel
theorem dX8_mark_97 : decode cX8_mark 97 = .ok (.ireturn, 1) := by decide +kernel
theorem dX8_mark_98 : decode cX8_mark 98 = .ok (.aload 4, 2) := by decide +kernel
theorem dX8_mark_100 : decode cX8_mark 100 = .ok (.getfield 275, 3) := by decide +kernel
theorem dX8_mark_103 : decode cX8_mark 103 = .ok (.iload_n 2, 1) := by decide +kernel
theorem dX8_mark_104 : decode cX8_mark 104 = .ok (.iload_n 3, 1) := by decide +kernel
theorem dX8_mark_105 : decode cX8_mark 105 = .ok (.iastore, 1) := by decide +kernel
theorem dX8_mark_106 : decode cX8_mark 106 = .ok (.iconst 1, 1) := by decide +kernel
theorem dX8_mark_107 : decode cX8_mark 107 = .ok (.ireturn, 1) := by decide +kernel
theorem dX8_pour_0 : decode cX8_pour 0 = .ok (.iload_n 1, 1) := by decide +kernel
theorem dX8_pour_1 : decode cX8_pour 1 = .ok (.iconst 4, 1) := by decide +kernel
theorem dX8_pour_2 : decode cX8_pour 2 = .ok (.invokestatic 76, 3) := by decide +kernel
theorem dX8_pour_5 : decode cX8_pour 5 = .ok (.ifCond .ne 6, 3) := by decide +kernel
theorem dX8_pour_8 : decode cX8_pour 8 = .ok (.ldc 80, 2) := by decide +kernel
theorem dX8_pour_10 : decode cX8_pour 10 = .ok (.ireturn, 1) := by decide +kernel
theorem dX8_pour_11 : decode cX8_pour 11 = .ok (.aload_n 0, 1) := by decide +kernel
theorem dX8_pour_12 : decode cX8_pour 12 = .ok (.getfield 64, 3) := by decide +kernel
theorem dX8_pour_15 : decode cX8_pour 15 = .ok (.iload_n 1, 1) := by decide +kernel
theorem dX8_pour_16 : decode cX8_pour 16 = .ok (.aaload, 1) := by decide +kernel
theorem dX8_pour_17 : decode cX8_pour 17 = .ok (.astore_n 2, 1) := by decide +kernel
theorem dX8_pour_18 : decode cX8_pour 18 = .ok (.aload_n 2, 1) := by decide +kernel
theorem dX8_pour_19 : decode cX8_pour 19 = .ok (.getfield 209, 3) := by decide +kernel
theorem dX8_pour_22 : decode cX8_pour 22 = .ok (.iconst (-1), 1) := by decide +kernel
theorem dX8_pour_23 : decode cX8_pour 23 = .ok (.if_icmp .ne 6, 3) := by decide +kernel
theorem dX8_pour_26 : decode cX8_pour 26 = .ok (.ldc 212, 2) := by decide +kernel
theorem dX8_pour_28 : decode cX8_pour 28 = .ok (.ireturn, 1) := by decide +kernel
theorem dX8_pour_29 : decode cX8_pour 29 = .ok (.iconst 0, 1) := by decide +kernel
theorem dX8_pour_30 : decode cX8_pour 30 = .ok (.istore_n 3, 1) := by decide +kernel
theorem dX8_pour_31 : decode cX8_pour 31 = .ok (.iconst 0, 1) := by decide +kernel
theorem dX8_pour_32 : decode cX8_pour 32 = .ok (.istore 4, 2) := by decide +kernel
theorem dX8_pour_34 : decode cX8_pour 34 = .ok (.iload 4, 2) := by decide +kernel
theorem dX8_pour_36 : decode cX8_pour 36 = .ok (.aload_n 0, 1) := by decide +kernel
theorem dX8_pour_37 : decode cX8_pour 37 = .ok (.getfield 12, 3) := by decide +kernel
theorem dX8_pour_40 : decode cX8_pour 40 = .ok (.getfield 81, 3) := by decide +kernel
theorem dX8_pour_43 : decode cX8_pour 43 = .ok (.if_icmp .ge 94, 3) := by decide +kernel
theorem dX8_pour_46 : decode cX8_pour 46 = .ok (.iload 4, 2) := by decide +kernel
theorem dX8_pour_48 : decode cX8_pour 48 = .ok (.aload_n 2, 1) := by decide +kernel
theorem dX8_pour_49 : decode cX8_pour 49 = .ok (.getfield 271, 3) := by decide +kernel
theorem dX8_pour_52 : decode cX8_pour 52 = .ok (.if_icmp .ge 85, 3) := by decide +kernel
theorem dX8_pour_55 : decode cX8_pour 55 = .ok (.aload_n 2, 1) := by decide +kernel
theorem dX8_pour_56 : decode cX8_pour 56 = .ok (.iload 4, 2) := by decide +kernel
theorem dX8_pour_58 : decode cX8_pour 58 = .ok (.invokevirtual 280, 3) := by decide +kernel
theorem dX8_pour_61 : decode cX8_pour 61 = .ok (.ifCond .eq 19, 3) := by decide +kernel
theorem dX8_pour_64 : decode cX8_pour 64 = .ok (.aload_n 2, 1) := by decide +kernel
theorem dX8_pour_65 : decode cX8_pour 65 = .ok (.getfield 275, 3) := by decide +kernel
theorem dX8_pour_68 : decode cX8_pour 68 = .ok (.iload 4, 2) := by decide +kernel
theorem dX8_pour_70 : decode cX8_pour 70 = .ok (.iaload, 1) := by decide +kernel
theorem dX8_pour_71 : decode cX8_pour 71 = .ok (.iconst 0, 1) := by decide +kernel
theorem dX8_pour_72 : decode cX8_pour 72 = .ok (.bipush 59, 2) := by decide +kernel
theorem dX8_pour_74 : decode cX8_pour 74 = .ok (.invokestatic 283, 3) := by decide +kernel
theorem dX8_pour_77 : decode cX8_pour 77 = .ok (.goto 16, 3) := by decide +kernel
theorem dX8_pour_80 : decode cX8_pour 80 = .ok (.aload_n 0, 1) := by decide +kernel
theorem dX8_pour_81 : decode cX8_pour 81 = .ok (.getfield 12, 3) := by decide +kernel
theorem dX8_pour_84 : decode cX8_pour 84 = .ok (.getfield 93, 3) := by decide +kernel
theorem dX8_pour_87 : decode cX8_pour 87 = .ok (.iload 4, 2) := by decide +kernel
theorem dX8_pour_89 : decode cX8_pour 89 = .ok (.aaload, 1) := by decide +kernel
theorem dX8_pour_90 : decode cX8_pour 90 = .ok (.getfield 102, 3) := by decide +kernel
theorem dX8_pour_93 : decode cX8_pour 93 = .ok (.istore 5, 2) := by decide +kernel
theorem dX8_pour_95 : decode cX8_pour 95 = .ok (.iload 5, 2) := by decide +kernel
theorem dX8_pour_97 : decode cX8_pour 97 = .ok (.aload_n 0, 1) := by decide +kernel
theorem dX8_pour_98 : decode cX8_pour 98 = .ok (.getfield 12, 3) := by decide +kernel
theorem dX8_pour_101 : decode cX8_pour 101 = .ok (.getfield 93, 3) := by decide +kernel
theorem dX8_pour_104 : decode cX8_pour 104 = .ok (.iload 4, 2) := by decide +kernel
theorem dX8_pour_106 : decode cX8_pour 106 = .ok (.aaload, 1) := by decide +kernel
theorem dX8_pour_107 : decode cX8_pour 107 = .ok (.getfield 102, 3) := by decide +kernel
theorem dX8_pour_110 : decode cX8_pour 110 = .ok (.if_icmp .eq 21, 3) := by decide +kernel
theorem dX8_pour_113 : decode cX8_pour 113 = .ok (.aload_n 0, 1) := by decide +kernel
theorem dX8_pour_114 : decode cX8_pour 114 = .ok (.getfield 12, 3) := by decide +kernel
theorem dX8_pour_117 : decode cX8_pour 117 = .ok (.getfield 93, 3) := by decide +kernel
theorem dX8_pour_120 : decode cX8_pour 120 = .ok (.iload 4, 2) := by decide +kernel
theorem dX8_pour_122 : decode cX8_pour 122 = .ok (.aaload, 1) := by decide +kernel
theorem dX8_pour_123 : decode cX8_pour 123 = .ok (.iload 5, 2) := by decide +kernel
theorem dX8_pour_125 : decode cX8_pour 125 = .ok (.putfield 102, 3) := by decide +kernel
theorem dX8_pour_128 : decode cX8_pour 128 = .ok (.iinc 3 1, 3) := by decide +kernel
theorem dX8_pour_131 : decode cX8_pour 131 = .ok (.iinc 4 1, 3) := by decide +kernel
theorem dX8_pour_134 : decode cX8_pour 134 = .ok (.goto (-100), 3) := by decide +kernel
theorem dX8_pour_137 : decode cX8_pour 137 = .ok (.iload_n 3, 1) := by decide +kernel
theorem dX8_pour_138 : decode cX8_pour 138 = .ok (.ireturn, 1) := by decide +kernel
theorem dX8_reads_0 : decode cX8_reads 0 = .ok (.iload_n 1, 1) := by decide +kernel
theorem dX8_reads_1 : decode cX8_reads 1 = .ok (.iconst 4, 1) := by decide +kernel
theorem dX8_reads_2 : decode cX8_reads 2 = .ok (.invokestatic 76, 3) := by decide +kernel
theorem dX8_reads_5 : decode cX8_reads 5 = .ok (.ifCond .ne 6, 3) := by decide +kernel
theorem dX8_reads_8 : decode cX8_reads 8 = .ok (.ldc 80, 2) := by decide +kernel
theorem dX8_reads_10 : decode cX8_reads 10 = .ok (.ireturn, 1) := by decide +kernel
theorem dX8_reads_11 : decode cX8_reads 11 = .ok (.aload_n 0, 1) := by decide +kernel
theorem dX8_reads_12 : decode cX8_reads 12 = .ok (.getfield 64, 3) := by decide +kernel
theorem dX8_reads_15 : decode cX8_reads 15 = .ok (.iload_n 1, 1) := by decide +kernel
theorem dX8_reads_16 : decode cX8_reads 16 = .ok (.aaload, 1) := by decide +kernel
theorem dX8_reads_17 : decode cX8_reads 17 = .ok (.astore_n 2, 1) := by decide +kernel
theorem dX8_reads_18 : decode cX8_reads 18 = .ok (.aload_n 2, 1) := by decide +kernel
theorem dX8_reads_19 : decode cX8_reads 19 = .ok (.getfield 209, 3) := by decide +kernel
theorem dX8_reads_22 : decode cX8_reads 22 = .ok (.iconst (-1), 1) := by decide +kernel
theorem dX8_reads_23 : decode cX8_reads 23 = .ok (.if_icmp .ne 6, 3) := by decide +kernel
theorem dX8_reads_26 : decode cX8_reads 26 = .ok (.ldc 212, 2) := by decide +kernel
theorem dX8_reads_28 : decode cX8_reads 28 = .ok (.ireturn, 1) := by decide +kernel
theorem dX8_reads_29 : decode cX8_reads 29 = .ok (.aload_n 0, 1) := by decide +kernel
theorem dX8_reads_30 : decode cX8_reads 30 = .ok (.getfield 12, 3) := by decide +kernel
theorem dX8_reads_33 : decode cX8_reads 33 = .ok (.invokevirtual 108, 3) := by decide +kernel
theorem dX8_reads_36 : decode cX8_reads 36 = .ok (.istore_n 3, 1) := by decide +kernel
theorem dX8_reads_37 : decode cX8_reads 37 = .ok (.iconst 0, 1) := by decide +kernel
theorem dX8_reads_38 : decode cX8_reads 38 = .ok (.istore 4, 2) := by decide +kernel
theorem dX8_reads_40 : decode cX8_reads 40 = .ok (.iload 4, 2) := by decide +kernel
theorem dX8_reads_42 : decode cX8_reads 42 = .ok (.aload_n 2, 1) := by decide +kernel
theorem dX8_reads_43 : decode cX8_reads 43 = .ok (.getfield 271, 3) := by decide +kernel
theorem dX8_reads_46 : decode cX8_reads 46 = .ok (.if_icmp .ge 73, 3) := by decide +kernel
theorem dX8_reads_49 : decode cX8_reads 49 = .ok (.aload_n 0, 1) := by decide +kernel
theorem dX8_reads_50 : decode cX8_reads 50 = .ok (.getfield 12, 3) := by decide +kernel
theorem dX8_reads_53 : decode cX8_reads 53 = .ok (.iload 4, 2) := by decide +kernel
theorem dX8_reads_55 : decode cX8_reads 55 = .ok (.invokevirtual 89, 3) := by decide +kernel
theorem dX8_reads_58 : decode cX8_reads 58 = .ok (.ifCond .eq 35, 3) := by decide +kernel
theorem dX8_reads_61 : decode cX8_reads 61 = .ok (.aload_n 2, 1) := by decide +kernel
theorem dX8_reads_62 : decode cX8_reads 62 = .ok (.getfield 275, 3) := by decide +kernel
theorem dX8_reads_65 : decode cX8_reads 65 = .ok (.iload 4, 2) := by decide +kernel
theorem dX8_reads_67 : decode cX8_reads 67 = .ok (.iaload, 1) := by decide +kernel
theorem dX8_reads_68 : decode cX8_reads 68 = .ok (.aload_n 0, 1) := by decide +kernel
theorem dX8_reads_69 : decode cX8_reads 69 = .ok (.getfield 12, 3) := by decide +kernel
theorem dX8_reads_72 : decode cX8_reads 72 = .ok (.aload_n 0, 1) := by decide +kernel
theorem dX8_reads_73 : decode cX8_reads 73 = .ok (.getfield 12, 3) := by decide +kernel
theorem dX8_reads_76 : decode cX8_reads 76 = .ok (.getfield 93, 3) := by decide +kernel
theorem dX8_reads_79 : decode cX8_reads 79 = .ok (.iload 4, 2) := by decide +kernel
theorem dX8_reads_81 : decode cX8_reads 81 = .ok (.aaload, 1) := by decide +kernel
theorem dX8_reads_82 : decode cX8_reads 82 = .ok (.iload_n 3, 1) := by decide +kernel
theorem dX8_reads_83 : decode cX8_reads 83 = .ok (.invokevirtual 112, 3) := by decide +kernel
theorem dX8_reads_86 : decode cX8_reads 86 = .ok (.if_icmp .ne 7, 3) := by decide +kernel
theorem dX8_reads_89 : decode cX8_reads 89 = .ok (.iconst 1, 1) := by decide +kernel
theorem dX8_reads_90 : decode cX8_reads 90 = .ok (.goto 4, 3) := by decide +kernel
theorem dX8_reads_93 : decode cX8_reads 93 = .ok (.iconst 0, 1) := by decide +kernel
theorem dX8_reads_94 : decode cX8_reads 94 = .ok (.istore 5, 2) := by decide +kernel
theorem dX8_reads_96 : decode cX8_reads 96 = .ok (.aload_n 2, 1) := by decide +kernel
theorem dX8_reads_97 : decode cX8_reads 97 = .ok (.iload 4, 2) := by decide +kernel
theorem dX8_reads_99 : decode cX8_reads 99 = .ok (.invokevirtual 280, 3) := by decide +kernel
theorem dX8_reads_102 : decode cX8_reads 102 = .ok (.ifCond .eq 11, 3) := by decide +kernel
theorem dX8_reads_105 : decode cX8_reads 105 = .ok (.iload 5, 2) := by decide +kernel
theorem dX8_reads_107 : decode cX8_reads 107 = .ok (.ifCond .ne 6, 3) := by decide +kernel
theorem dX8_reads_110 : decode cX8_reads 110 = .ok (.iload 4, 2) := by decide +kernel
theorem dX8_reads_112 : decode cX8_reads 112 = .ok (.ireturn, 1) := by decide +kernel
theorem dX8_reads_113 : decode cX8_reads 113 = .ok (.iinc 4 1, 3) := by decide +kernel
theorem dX8_reads_116 : decode cX8_reads 116 = .ok (.goto (-76), 3) := by decide +kernel
theorem dX8_reads_119 : decode cX8_reads 119 = .ok (.ldc 168, 2) := by decide +kernel
theorem dX8_reads_121 : decode cX8_reads 121 = .ok (.ireturn, 1) := by decide +kernel
theorem dX8_copy_0 : decode cX8_copy 0 = .ok (.iload_n 1, 1) := by decide +kernel
theorem dX8_copy_1 : decode cX8_copy 1 = .ok (.iconst 4, 1) := by decide +kernel
theorem dX8_copy_2 : decode cX8_copy 2 = .ok (.invokestatic 76, 3) := by decide +kernel
theorem dX8_copy_5 : decode cX8_copy 5 = .ok (.ifCond .eq 11, 3) := by decide +kernel
theorem dX8_copy_8 : decode cX8_copy 8 = .ok (.iload_n 3, 1) := by decide +kernel
theorem dX8_copy_9 : decode cX8_copy 9 = .ok (.iconst 4, 1) := by decide +kernel
theorem dX8_copy_10 : decode cX8_copy 10 = .ok (.invokestatic 76, 3) := by decide +kernel
theorem dX8_copy_13 : decode cX8_copy 13 = .ok (.ifCond .ne 6, 3) := by decide +kernel
theorem dX8_copy_16 : decode cX8_copy 16 = .ok (.ldc 80, 2) := by decide +kernel
theorem dX8_copy_18 : decode cX8_copy 18 = .ok (.ireturn, 1) := by decide +kernel
theorem dX8_copy_19 : decode cX8_copy 19 = .ok (.aload_n 0, 1) := by decide +kernel
theorem dX8_copy_20 : decode cX8_copy 20 = .ok (.getfield 64, 3) := by decide +kernel
theorem dX8_copy_23 : decode cX8_copy 23 = .ok (.iload_n 1, 1) := by decide +kernel
theorem dX8_copy_24 : decode cX8_copy 24 = .ok (.aaload, 1) := by decide +kernel
theorem dX8_copy_25 : decode cX8_copy 25 = .ok (.astore 6, 2) := by decide +kernel
theorem dX8_copy_27 : decode cX8_copy 27 = .ok (.aload_n 0, 1) := by decide +kernel
theorem dX8_copy_28 : decode cX8_copy 28 = .ok (.getfield 64, 3) := by decide +kernel
theorem dX8_copy_31 : decode cX8_copy 31 = .ok (.iload_n 3, 1) := by decide +kernel
theorem dX8_copy_32 : decode cX8_copy 32 = .ok (.aaload, 1) := by decide +kernel
theorem dX8_copy_33 : decode cX8_copy 33 = .ok (.astore 7, 2) := by decide +kernel
theorem dX8_copy_35 : decode cX8_copy 35 = .ok (.aload 6, 2) := by decide +kernel
theorem dX8_copy_37 : decode cX8_copy 37 = .ok (.getfield 209, 3) := by decide +kernel
theorem dX8_copy_40 : decode cX8_copy 40 = .ok (.iconst (-1), 1) := by decide +kernel
theorem dX8_copy_41 : decode cX8_copy 41 = .ok (.if_icmp .eq 12, 3) := by decide +kernel
theorem dX8_copy_44 : decode cX8_copy 44 = .ok (.aload 7, 2) := by decide +kernel
theorem dX8_copy_46 : decode cX8_copy 46 = .ok (.getfield 209, 3) := by decide +kernel
theorem dX8_copy_49 : decode cX8_copy 49 = .ok (.iconst (-1), 1) := by decide +kernel
theorem dX8_copy_50 : decode cX8_copy 50 = .ok (.if_icmp .ne 6, 3) := by decide +kernel
theorem dX8_copy_53 : decode cX8_copy 53 = .ok (.ldc 212, 2) := by decide +kernel
theorem dX8_copy_55 : decode cX8_copy 55 = .ok (.ireturn, 1) := by decide +kernel
theorem dX8_copy_56 : decode cX8_copy 56 = .ok (.aload 6, 2) := by decide +kernel
theorem dX8_copy_58 : decode cX8_copy 58 = .ok (.getfield 209, 3) := by decide +kernel
theorem dX8_copy_61 : decode cX8_copy 61 = .ok (.aload 7, 2) := by decide +kernel
theorem dX8_copy_63 : decode cX8_copy 63 = .ok (.getfield 209, 3) := by decide +kernel
theorem dX8_copy_66 : decode cX8_copy 66 = .ok (.if_icmp .eq 6, 3) := by decide +kernel
theorem dX8_copy_69 : decode cX8_copy 69 = .ok (.ldc 126, 2) := by decide +kernel
theorem dX8_copy_71 : decode cX8_copy 71 = .ok (.ireturn, 1) := by decide +kernel
theorem dX8_copy_72 : decode cX8_copy 72 = .ok (.aload 6, 2) := by decide +kernel
theorem dX8_copy_74 : decode cX8_copy 74 = .ok (.iload_n 2, 1) := by decide +kernel
theorem dX8_copy_75 : decode cX8_copy 75 = .ok (.iload 5, 2) := by decide +kernel
theorem dX8_copy_77 : decode cX8_copy 77 = .ok (.invokevirtual 286, 3) := by decide +kernel
theorem dX8_copy_80 : decode cX8_copy 80 = .ok (.ifCond .eq 15, 3) := by decide +kernel
theorem dX8_copy_83 : decode cX8_copy 83 = .ok (.aload 7, 2) := by decide +kernel
theorem dX8_copy_85 : decode cX8_copy 85 = .ok (.iload 4, 2) := by decide +kernel
theorem dX8_copy_87 : decode cX8_copy 87 = .ok (.iload 5, 2) := by decide +kernel
theorem dX8_copy_89 : decode cX8_copy 89 = .ok (.invokevirtual 286, 3) := by decide +kernel
theorem dX8_copy_92 : decode cX8_copy 92 = .ok (.ifCond .ne 7, 3) := by decide +kernel
theorem dX8_copy_95 : decode cX8_copy 95 = .ok (.ldc_w 274, 3) := by decide +kernel
theorem dX8_copy_98 : decode cX8_copy 98 = .ok (.ireturn, 1) := by decide +kernel
theorem dX8_copy_99 : decode cX8_copy 99 = .ok (.aload 6, 2) := by decide +kernel
theorem dX8_copy_101 : decode cX8_copy 101 = .ok (.getfield 275, 3) := by decide +kernel
theorem dX8_copy_104 : decode cX8_copy 104 = .ok (.iload_n 2, 1) := by decide +kernel
theorem dX8_copy_105 : decode cX8_copy 105 = .ok (.aload 7, 2) := by decide +kernel
theorem dX8_copy_107 : decode cX8_copy 107 = .ok (.getfield 275, 3) := by decide +kernel
theorem dX8_copy_110 : decode cX8_copy 110 = .ok (.iload 4, 2) := by decide +kernel
theorem dX8_copy_112 : decode cX8_copy 112 = .ok (.iload 5, 2) := by decide +kernel
theorem dX8_copy_114 : decode cX8_copy 114 = .ok (.invokestatic 289, 3) := by decide +kernel
theorem dX8_copy_117 : decode cX8_copy 117 = .ok (.iload 5, 2) := by decide +kernel
theorem dX8_copy_119 : decode cX8_copy 119 = .ok (.ireturn, 1) := by decide +kernel
theorem dX8_lay_0 : decode cX8_lay 0 = .ok (.iload_n 1, 1) := by decide +kernel
theorem dX8_lay_1 : decode cX8_lay 1 = .ok (.iconst 5, 1) := by decide +kernel
theorem dX8_lay_2 : decode cX8_lay 2 = .ok (.invokestatic 76, 3) := by decide +kernel
theorem dX8_lay_5 : decode cX8_lay 5 = .ok (.ifCond .eq 11, 3) := by decide +kernel
theorem dX8_lay_8 : decode cX8_lay 8 = .ok (.iload_n 2, 1) := by decide +kernel
theorem dX8_lay_9 : decode cX8_lay 9 = .ok (.iconst 4, 1) := by decide +kernel
theorem dX8_lay_10 : decode cX8_lay 10 = .ok (.invokestatic 76, 3) := by decide +kernel
theorem dX8_lay_13 : decode cX8_lay 13 = .ok (.ifCond .ne 6, 3) := by decide +kernel
theorem dX8_lay_16 : decode cX8_lay 16 = .ok (.ldc 80, 2) := by decide +kernel
theorem dX8_lay_18 : decode cX8_lay 18 = .ok (.ireturn, 1) := by decide +kernel
theorem dX8_lay_19 : decode cX8_lay 19 = .ok (.iload_n 2, 1) := by decide +kernel
theorem dX8_lay_20 : decode cX8_lay 20 = .ok (.iconst 1, 1) := by decide +kernel
theorem dX8_lay_21 : decode cX8_lay 21 = .ok (.if_icmp .ne 14, 3) := by decide +kernel
theorem dX8_lay_24 : decode cX8_lay 24 = .ok (.aload_n 0, 1) := by decide +kernel
theorem dX8_lay_25 : decode cX8_lay 25 = .ok (.getfield 12, 3) := by decide +kernel
theorem dX8_lay_28 : decode cX8_lay 28 = .ok (.iload_n 3, 1) := by decide +kernel
theorem dX8_lay_29 : decode cX8_lay 29 = .ok (.invokevirtual 89, 3) := by decide +kernel
theorem dX8_lay_32 : decode cX8_lay 32 = .ok (.ifCond .eq 16, 3) := by decide +kernel
theorem dX8_lay_35 : decode cX8_lay 35 = .ok (.iload_n 2, 1) := by decide +kernel
theorem dX8_lay_36 : decode cX8_lay 36 = .ok (.iconst 2, 1) := by decide +kernel
theorem dX8_lay_37 : decode cX8_lay 37 = .ok (.if_icmp .ne 14, 3) := by decide +kernel
theorem dX8_lay_40 : decode cX8_lay 40 = .ok (.iload_n 3, 1) := by decide +kernel
theorem dX8_lay_41 : decode cX8_lay 41 = .ok (.iconst 4, 1) := by decide +kernel
theorem dX8_lay_42 : decode cX8_lay 42 = .ok (.invokestatic 76, 3) := by decide +kernel
theorem dX8_lay_45 : decode cX8_lay 45 = .ok (.ifCond .ne 6, 3) := by decide +kernel
theorem dX8_lay_48 : decode cX8_lay 48 = .ok (.ldc 80, 2) := by decide +kernel
theorem dX8_lay_50 : decode cX8_lay 50 = .ok (.ireturn, 1) := by decide +kernel
theorem dX8_lay_51 : decode cX8_lay 51 = .ok (.iload_n 2, 1) := by decide +kernel
theorem dX8_lay_52 : decode cX8_lay 52 = .ok (.iconst 2, 1) := by decide +kernel
theorem dX8_lay_53 : decode cX8_lay 53 = .ok (.if_icmp .ne 19, 3) := by decide +kernel
theorem dX8_lay_56 : decode cX8_lay 56 = .ok (.aload_n 0, 1) := by decide +kernel
theorem dX8_lay_57 : decode cX8_lay 57 = .ok (.getfield 64, 3) := by decide +kernel
theorem dX8_lay_60 : decode cX8_lay 60 = .ok (.iload_n 3, 1) := by decide +kernel
theorem dX8_lay_61 : decode cX8_lay 61 = .ok (.aaload, 1) := by decide +kernel
theorem dX8_lay_62 : decode cX8_lay 62 = .ok (.getfield 209, 3) := by decide +kernel
theorem dX8_lay_65 : decode cX8_lay 65 = .ok (.iconst (-1), 1) := by decide +kernel
theorem dX8_lay_66 : decode cX8_lay 66 = .ok (.if_icmp .ne 6, 3) := by decide +kernel
theorem dX8_lay_69 : decode cX8_lay 69 = .ok (.ldc 212, 2) := by decide +kernel
theorem dX8_lay_71 : decode cX8_lay 71 = .ok (.ireturn, 1) := by decide +kernel
theorem dX8_lay_72 : decode cX8_lay 72 = .ok (.aload_n 0, 1) := by decide +kernel
theorem dX8_lay_73 : decode cX8_lay 73 = .ok (.getfield 70, 3) := by decide +kernel
theorem dX8_lay_76 : decode cX8_lay 76 = .ok (.iload_n 1, 1) := by decide +kernel
theorem dX8_lay_77 : decode cX8_lay 77 = .ok (.aaload, 1) := by decide +kernel
theorem dX8_lay_78 : decode cX8_lay 78 = .ok (.astore 4, 2) := by decide +kernel
theorem dX8_lay_80 : decode cX8_lay 80 = .ok (.aload 4, 2) := by decide +kernel
theorem dX8_lay_82 : decode cX8_lay 82 = .ok (.getfield 295, 3) := by decide +kernel
theorem dX8_lay_85 : decode cX8_lay 85 = .ok (.istore 5, 2) := by decide +kernel
theorem dX8_lay_87 : decode cX8_lay 87 = .ok (.aload 4, 2) := by decide +kernel
theorem dX8_lay_89 : decode cX8_lay 89 = .ok (.iload_n 2, 1) := by decide +kernel
theorem dX8_lay_90 : decode cX8_lay 90 = .ok (.putfield 295, 3) := by decide +kernel
theorem dX8_lay_93 : decode cX8_lay 93 = .ok (.iload_n 2, 1) := by decide +kernel
theorem dX8_lay_94 : decode cX8_lay 94 = .ok (.iconst 1, 1) := by decide +kernel
theorem dX8_lay_95 : decode cX8_lay 95 = .ok (.if_icmp .ne 23, 3) := by decide +kernel
theorem dX8_lay_98 : decode cX8_lay 98 = .ok (.aload 4, 2) := by decide +kernel
theorem dX8_lay_100 : decode cX8_lay 100 = .ok (.getfield 298, 3) := by decide +kernel
theorem dX8_lay_103 : decode cX8_lay 103 = .ok (.aload_n 0, 1) := by decide +kernel
theorem dX8_lay_104 : decode cX8_lay 104 = .ok (.getfield 12, 3) := by decide +kernel
theorem dX8_lay_107 : decode cX8_lay 107 = .ok (.getfield 93, 3) := by decide +kernel
theorem dX8_lay_110 : decode cX8_lay 110 = .ok (.iload_n 3, 1) := by decide +kernel
theorem dX8_lay_111 : decode cX8_lay 111 = .ok (.aaload, 1) := by decide +kernel
theorem dX8_lay_112 : decode cX8_lay 112 = .ok (.invokevirtual 302, 3) := by decide +kernel
theorem dX8_lay_115 : decode cX8_lay 115 = .ok (.goto 31, 3) := by decide +kernel
theorem dX8_lay_118 : decode cX8_lay 118 = .ok (.iload_n 2, 1) := by decide +kernel
theorem dX8_lay_119 : decode cX8_lay 119 = .ok (.iconst 2, 1) := by decide +kernel
theorem dX8_lay_120 : decode cX8_lay 120 = .ok (.if_icmp .ne 20, 3) := by decide +kernel
theorem dX8_lay_123 : decode cX8_lay 123 = .ok (.aload 4, 2) := by decide +kernel
theorem dX8_lay_125 : decode cX8_lay 125 = .ok (.getfield 305, 3) := by decide +kernel
theorem dX8_lay_128 : decode cX8_lay 128 = .ok (.aload_n 0, 1) := by decide +kernel
theorem dX8_lay_129 : decode cX8_lay 129 = .ok (.getfield 64, 3) := by decide +kernel
theorem dX8_lay_132 : decode cX8_lay 132 = .ok (.iload_n 3, 1) := by decide +kernel
theorem dX8_lay_133 : decode cX8_lay 133 = .ok (.aaload, 1) := by decide +kernel
theorem dX8_lay_134 : decode cX8_lay 134 = .ok (.invokevirtual 309, 3) := by decide +kernel
theorem dX8_lay_137 : decode cX8_lay 137 = .ok (.goto 9, 3) := by decide +kernel
theorem dX8_lay_140 : decode cX8_lay 140 = .ok (.aload 4, 2) := by decide +kernel
theorem dX8_lay_142 : decode cX8_lay 142 = .ok (.iload_n 3, 1) := by decide +kernel
theorem dX8_lay_143 : decode cX8_lay 143 = .ok (.putfield 312, 3) := by decide +kernel
theorem dX8_lay_146 : decode cX8_lay 146 = .ok (.iload 5, 2) := by decide +kernel
theorem dX8_lay_148 : decode cX8_lay 148 = .ok (.ireturn, 1) := by decide +kernel
theorem dX8_ask_0 : decode cX8_ask 0 = .ok (.iload_n 1, 1) := by decide +kernel
theorem dX8_ask_1 : decode cX8_ask 1 = .ok (.iconst 5, 1) := by decide +kernel
theorem dX8_ask_2 : decode cX8_ask 2 = .ok (.invokestatic 76, 3) := by decide +kernel
theorem dX8_ask_5 : decode cX8_ask 5 = .ok (.ifCond .eq 12, 3) := by decide +kernel
theorem dX8_ask_8 : decode cX8_ask 8 = .ok (.iload_n 2, 1) := by decide +kernel
theorem dX8_ask_9 : decode cX8_ask 9 = .ok (.bipush 6, 2) := by decide +kernel
theorem dX8_ask_11 : decode cX8_ask 11 = .ok (.invokestatic 76, 3) := by decide +kernel
theorem dX8_ask_14 : decode cX8_ask 14 = .ok (.ifCond .ne 6, 3) := by decide +kernel
theorem dX8_ask_17 : decode cX8_ask 17 = .ok (.ldc 80, 2) := by decide +kernel
theorem dX8_ask_19 : decode cX8_ask 19 = .ok (.ireturn, 1) := by decide +kernel
theorem dX8_ask_20 : decode cX8_ask 20 = .ok (.aload_n 0, 1) := by decide +kernel
theorem dX8_ask_21 : decode cX8_ask 21 = .ok (.getfield 70, 3) := by decide +kernel
theorem dX8_ask_24 : decode cX8_ask 24 = .ok (.iload_n 1, 1) := by decide +kernel
theorem dX8_ask_25 : decode cX8_ask 25 = .ok (.aaload, 1) := by decide +kernel
theorem dX8_ask_26 : decode cX8_ask 26 = .ok (.astore_n 3, 1) := by decide +kernel
theorem dX8_ask_27 : decode cX8_ask 27 = .ok (.aload_n 3, 1) := by decide +kernel
theorem dX8_ask_28 : decode cX8_ask 28 = .ok (.getfield 295, 3) := by decide +kernel
theorem dX8_ask_31 : decode cX8_ask 31 = .ok (.ifCond .ne 6, 3) := by decide +kernel
theorem dX8_ask_34 : decode cX8_ask 34 = .ok (.ldc 212, 2) := by decide +kernel
theorem dX8_ask_36 : decode cX8_ask 36 = .ok (.ireturn, 1) := by decide +kernel
theorem dX8_ask_37 : decode cX8_ask 37 = .ok (.aload_n 3, 1) := by decide +kernel
theorem dX8_ask_38 : decode cX8_ask 38 = .ok (.getfield 295, 3) := by decide +kernel
theorem dX8_ask_41 : decode cX8_ask 41 = .ok (.iconst 1, 1) := by decide +kernel
theorem dX8_ask_42 : decode cX8_ask 42 = .ok (.if_icmp .ne 17, 3) := by decide +kernel
theorem dX8_ask_45 : decode cX8_ask 45 = .ok (.aload_n 3, 1) := by decide +kernel
theorem dX8_ask_46 : decode cX8_ask 46 = .ok (.getfield 298, 3) := by decide +kernel
theorem dX8_ask_49 : decode cX8_ask 49 = .ok (.getfield 97, 3) := by decide +kernel
theorem dX8_ask_52 : decode cX8_ask 52 = .ok (.iload_n 2, 1) := by decide +kernel
theorem dX8_ask_53 : decode cX8_ask 53 = .ok (.invokestatic 123, 3) := by decide +kernel
theorem dX8_ask_56 : decode cX8_ask 56 = .ok (.ifCond .ne 6, 3) := by decide +kernel
theorem dX8_ask_59 : decode cX8_ask 59 = .ok (.ldc 126, 2) := by decide +kernel
theorem dX8_ask_61 : decode cX8_ask 61 = .ok (.ireturn, 1) := by decide +kernel
theorem dX8_ask_62 : decode cX8_ask 62 = .ok (.aload_n 3, 1) := by decide +kernel
theorem dX8_ask_63 : decode cX8_ask 63 = .ok (.getfield 298, 3) := by decide +kernel
theorem dX8_ask_66 : decode cX8_ask 66 = .ok (.invokevirtual 120, 3) := by decide +kernel
theorem dX8_ask_69 : decode cX8_ask 69 = .ok (.ireturn, 1) := by decide +kernel
theorem dX8_item_0 : decode cX8_item 0 = .ok (.iload_n 1, 1) := by decide +kernel
theorem dX8_item_1 : decode cX8_item 1 = .ok (.iconst 5, 1) := by decide +kernel
theorem dX8_item_2 : decode cX8_item 2 = .ok (.invokestatic 76, 3) := by decide +kernel
theorem dX8_item_5 : decode cX8_item 5 = .ok (.ifCond .ne 6, 3) := by decide +kernel
theorem dX8_item_8 : decode cX8_item 8 = .ok (.ldc 80, 2) := by decide +kernel
theorem dX8_item_10 : decode cX8_item 10 = .ok (.ireturn, 1) := by decide +kernel
theorem dX8_item_11 : decode cX8_item 11 = .ok (.aload_n 0, 1) := by decide +kernel
theorem dX8_item_12 : decode cX8_item 12 = .ok (.getfield 70, 3) := by decide +kernel
theorem dX8_item_15 : decode cX8_item 15 = .ok (.iload_n 1, 1) := by decide +kernel
theorem dX8_item_16 : decode cX8_item 16 = .ok (.aaload, 1) := by decide +kernel
theorem dX8_item_17 : decode cX8_item 17 = .ok (.astore_n 3, 1) := by decide +kernel
theorem dX8_item_18 : decode cX8_item 18 = .ok (.aload_n 3, 1) := by decide +kernel
theorem dX8_item_19 : decode cX8_item 19 = .ok (.getfield 295, 3) := by decide +kernel
theorem dX8_item_22 : decode cX8_item 22 = .ok (.ifCond .ne 6, 3) := by decide +kernel
theorem dX8_item_25 : decode cX8_item 25 = .ok (.ldc 212, 2) := by decide +kernel
theorem dX8_item_27 : decode cX8_item 27 = .ok (.ireturn, 1) := by decide +kernel
theorem dX8_item_28 : decode cX8_item 28 = .ok (.aload_n 3, 1) := by decide +kernel
theorem dX8_item_29 : decode cX8_item 29 = .ok (.getfield 295, 3) := by decide +kernel
theorem dX8_item_32 : decode cX8_item 32 = .ok (.iconst 2, 1) := by decide +kernel
theorem dX8_item_33 : decode cX8_item 33 = .ok (.if_icmp .eq 6, 3) := by decide +kernel
theorem dX8_item_36 : decode cX8_item 36 = .ok (.ldc 126, 2) := by decide +kernel
theorem dX8_item_38 : decode cX8_item 38 = .ok (.ireturn, 1) := by decide +kernel
theorem dX8_item_39 : decode cX8_item 39 = .ok (.iload_n 2, 1) := by decide +kernel
theorem dX8_item_40 : decode cX8_item 40 = .ok (.aload_n 3, 1) := by decide +kernel
theorem dX8_item_41 : decode cX8_item 41 = .ok (.getfield 305, 3) := by decide +kernel
theorem dX8_item_44 : decode cX8_item 44 = .ok (.getfield 271, 3) := by decide +kernel
theorem dX8_item_47 : decode cX8_item 47 = .ok (.invokestatic 76, 3) := by decide +kernel
theorem dX8_item_50 : decode cX8_item 50 = .ok (.ifCond .ne 7, 3) := by decide +kernel
theorem dX8_item_53 : decode cX8_item 53 = .ok (.ldc_w 274, 3) := by decide +kernel
theorem dX8_item_56 : decode cX8_item 56 = .ok (.ireturn, 1) := by decide +kernel
theorem dX8_item_57 : decode cX8_item 57 = .ok (.aload_n 3, 1) := by decide +kernel
theorem dX8_item_58 : decode cX8_item 58 = .ok (.getfield 305, 3) := by decide +kernel
theorem dX8_item_61 : decode cX8_item 61 = .ok (.iload_n 2, 1) := by decide +kernel
theorem dX8_item_62 : decode cX8_item 62 = .ok (.invokevirtual 280, 3) := by decide +kernel
theorem dX8_item_65 : decode cX8_item 65 = .ok (.ifCond .eq 15, 3) := by decide +kernel
theorem dX8_item_68 : decode cX8_item 68 = .ok (.aload_n 3, 1) := by decide +kernel
theorem dX8_item_69 : decode cX8_item 69 = .ok (.getfield 305, 3) := by decide +kernel
theorem dX8_item_72 : decode cX8_item 72 = .ok (.getfield 275, 3) := by decide +kernel
theorem dX8_item_75 : decode cX8_item 75 = .ok (.iload_n 2, 1) := by decide +kernel
theorem dX8_item_76 : decode cX8_item 76 = .ok (.iaload, 1) := by decide +kernel
theorem dX8_item_77 : decode cX8_item 77 = .ok (.goto 5, 3) := by decide +kernel
theorem dX8_item_80 : decode cX8_item 80 = .ok (.ldc 126, 2) := by decide +kernel
theorem dX8_item_82 : decode cX8_item 82 = .ok (.ireturn, 1) := by decide +kernel
theorem dX8_rest_0 : decode cX8_rest 0 = .ok (.iload_n 1, 1) := by decide +kernel
theorem dX8_rest_1 : decode cX8_rest 1 = .ok (.iconst 5, 1) := by decide +kernel
theorem dX8_rest_2 : decode cX8_rest 2 = .ok (.invokestatic 76, 3) := by decide +kernel
theorem dX8_rest_5 : decode cX8_rest 5 = .ok (.ifCond .ne 6, 3) := by decide +kernel
theorem dX8_rest_8 : decode cX8_rest 8 = .ok (.ldc 80, 2) := by decide +kernel
theorem dX8_rest_10 : decode cX8_rest 10 = .ok (.ireturn, 1) := by decide +kernel
theorem dX8_rest_11 : decode cX8_rest 11 = .ok (.aload_n 0, 1) := by decide +kernel
theorem dX8_rest_12 : decode cX8_rest 12 = .ok (.getfield 70, 3) := by decide +kernel
theorem dX8_rest_15 : decode cX8_rest 15 = .ok (.iload_n 1, 1) := by decide +kernel
theorem dX8_rest_16 : decode cX8_rest 16 = .ok (.aaload, 1) := by decide +kernel
theorem dX8_rest_17 : decode cX8_rest 17 = .ok (.astore_n 3, 1) := by decide +kernel
theorem dX8_rest_18 : decode cX8_rest 18 = .ok (.aload_n 3, 1) := by decide +kernel
theorem dX8_rest_19 : decode cX8_rest 19 = .ok (.getfield 295, 3) := by decide +kernel
theorem dX8_rest_22 : decode cX8_rest 22 = .ok (.ifCond .ne 6, 3) := by decide +kernel
theorem dX8_rest_25 : decode cX8_rest 25 = .ok (.ldc 212, 2) := by decide +kernel
theorem dX8_rest_27 : decode cX8_rest 27 = .ok (.ireturn, 1) := by decide +kernel
theorem dX8_rest_28 : decode cX8_rest 28 = .ok (.aload_n 3, 1) := by decide +kernel
theorem dX8_rest_29 : decode cX8_rest 29 = .ok (.getfield 295, 3) := by decide +kernel
theorem dX8_rest_32 : decode cX8_rest 32 = .ok (.iconst 3, 1) := by decide +kernel
theorem dX8_rest_33 : decode cX8_rest 33 = .ok (.if_icmp .eq 6, 3) := by decide +kernel
theorem dX8_rest_36 : decode cX8_rest 36 = .ok (.ldc 126, 2) := by decide +kernel
theorem dX8_rest_38 : decode cX8_rest 38 = .ok (.ireturn, 1) := by decide +kernel
theorem dX8_rest_39 : decode cX8_rest 39 = .ok (.iload_n 2, 1) := by decide +kernel
theorem dX8_rest_40 : decode cX8_rest 40 = .ok (.ifCond .ne 9, 3) := by decide +kernel
theorem dX8_rest_43 : decode cX8_rest 43 = .ok (.ldc_w 315, 3) := by decide +kernel
theorem dX8_rest_46 : decode cX8_rest 46 = .ok (.goto 9, 3) := by decide +kernel
theorem dX8_rest_49 : decode cX8_rest 49 = .ok (.aload_n 3, 1) := by decide +kernel
theorem dX8_rest_50 : decode cX8_rest 50 = .ok (.getfield 312, 3) := by decide +kernel
theorem dX8_rest_53 : decode cX8_rest 53 = .ok (.iload_n 2, 1) := by decide +kernel
theorem dX8_rest_54 : decode cX8_rest 54 = .ok (.irem, 1) := by decide +kernel
theorem dX8_rest_55 : decode cX8_rest 55 = .ok (.ireturn, 1) := by decide +kernel
theorem dX8_tell_0 : decode cX8_tell 0 = .ok (.aload_n 0, 1) := by decide +kernel
theorem dX8_tell_1 : decode cX8_tell 1 = .ok (.getfield 59, 3) := by decide +kernel
theorem dX8_tell_4 : decode cX8_tell 4 = .ok (.bipush 60, 2) := by decide +kernel
theorem dX8_tell_6 : decode cX8_tell 6 = .ok (.if_icmp .lt 6, 3) := by decide +kernel
theorem dX8_tell_9 : decode cX8_tell 9 = .ok (.ldc 84, 2) := by decide +kernel
theorem dX8_tell_11 : decode cX8_tell 11 = .ok (.ireturn, 1) := by decide +kernel
theorem dX8_tell_12 : decode cX8_tell 12 = .ok (.aload_n 0, 1) := by decide +kernel
theorem dX8_tell_13 : decode cX8_tell 13 = .ok (.getfield 55, 3) := by decide +kernel
theorem dX8_tell_16 : decode cX8_tell 16 = .ok (.aload_n 0, 1) := by decide +kernel
theorem dX8_tell_17 : decode cX8_tell 17 = .ok (.getfield 59, 3) := by decide +kernel
theorem dX8_tell_20 : decode cX8_tell 20 = .ok (.iload_n 1, 1) := by decide +kernel
theorem dX8_tell_21 : decode cX8_tell 21 = .ok (.iastore, 1) := by decide +kernel
theorem dX8_tell_22 : decode cX8_tell 22 = .ok (.aload_n 0, 1) := by decide +kernel
theorem dX8_tell_23 : decode cX8_tell 23 = .ok (.dup, 1) := by decide +kernel
theorem dX8_tell_24 : decode cX8_tell 24 = .ok (.getfield 59, 3) := by decide +kernel
theorem dX8_tell_27 : decode cX8_tell 27 = .ok (.iconst 1, 1) := by decide +kernel
theorem dX8_tell_28 : decode cX8_tell 28 = .ok (.iadd, 1) := by decide +kernel
theorem dX8_tell_29 : decode cX8_tell 29 = .ok (.putfield 59, 3) := by decide +kernel
theorem dX8_tell_32 : decode cX8_tell 32 = .ok (.aload_n 0, 1) := by decide +kernel
theorem dX8_tell_33 : decode cX8_tell 33 = .ok (.getfield 59, 3) := by decide +kernel
theorem dX8_tell_36 : decode cX8_tell 36 = .ok (.ireturn, 1) := by decide +kernel
theorem dX8_check_0 : decode cX8_check 0 = .ok (.aload_n 0, 1) := by decide +kernel
theorem dX8_check_1 : decode cX8_check 1 = .ok (.getfield 59, 3) := by decide +kernel
theorem dX8_check_4 : decode cX8_check 4 = .ok (.istore_n 2, 1) := by decide +kernel
theorem dX8_check_5 : decode cX8_check 5 = .ok (.aload_n 0, 1) := by decide +kernel
theorem dX8_check_6 : decode cX8_check 6 = .ok (.iconst 0, 1) := by decide +kernel
theorem dX8_check_7 : decode cX8_check 7 = .ok (.putfield 59, 3) := by decide +kernel
theorem dX8_check_10 : decode cX8_check 10 = .ok (.iload_n 1, 1) := by decide +kernel
theorem dX8_check_11 : decode cX8_check 11 = .ok (.iconst 1, 1) := by decide +kernel
theorem dX8_check_12 : decode cX8_check 12 = .ok (.if_icmp .lt 9, 3) := by decide +kernel
theorem dX8_check_15 : decode cX8_check 15 = .ok (.iload_n 1, 1) := by decide +kernel
theorem dX8_check_16 : decode cX8_check 16 = .ok (.bipush 30, 2) := by decide +kernel
theorem dX8_check_18 : decode cX8_check 18 = .ok (.if_icmp .le 6, 3) := by decide +kernel
theorem dX8_check_21 : decode cX8_check 21 = .ok (.ldc 80, 2) := by decide +kernel
theorem dX8_check_23 : decode cX8_check 23 = .ok (.ireturn, 1) := by decide +kernel
theorem dX8_check_24 : decode cX8_check 24 = .ok (.aload_n 0, 1) := by decide +kernel
theorem dX8_check_25 : decode cX8_check 25 = .ok (.getfield 22, 3) := by decide +kernel
theorem dX8_check_28 : decode cX8_check 28 = .ok (.ifCond .ne 7, 3) := by decide +kernel
theorem dX8_check_31 : decode cX8_check 31 = .ok (.ldc_w 315, 3) := by decide +kernel
theorem dX8_check_34 : decode cX8_check 34 = .ok (.ireturn, 1) := by decide +kernel
theorem dX8_check_35 : decode cX8_check 35 = .ok (.aload_n 0, 1) := by decide +kernel
theorem dX8_check_36 : decode cX8_check 36 = .ok (.getfield 19, 3) := by decide +kernel
theorem dX8_check_39 : decode cX8_check 39 = .ok (.aload_n 0, 1) := by decide +kernel
theorem dX8_check_40 : decode cX8_check 40 = .ok (.getfield 16, 3) := by decide +kernel
theorem dX8_check_43 : decode cX8_check 43 = .ok (.invokevirtual 217, 3) := by decide +kernel
theorem dX8_check_46 : decode cX8_check 46 = .ok (.iconst 2, 1) := by decide +kernel
theorem dX8_check_47 : decode cX8_check 47 = .ok (.iload_n 1, 1) := by decide +kernel
theorem dX8_check_48 : decode cX8_check 48 = .ok (.sipush 9999, 3) := by decide +kernel
theorem dX8_check_51 : decode cX8_check 51 = .ok (.aload_n 0, 1) := by decide +kernel
theorem dX8_check_52 : decode cX8_check 52 = .ok (.getfield 19, 3) := by decide +kernel
theorem dX8_check_55 : decode cX8_check 55 = .ok (.getfield 152, 3) := by decide +kernel
theorem dX8_check_58 : decode cX8_check 58 = .ok (.isub, 1) := by decide +kernel
theorem dX8_check_59 : decode cX8_check 59 = .ok (.invokestatic 137, 3) := by decide +kernel
theorem dX8_check_62 : decode cX8_check 62 = .ok (.imul, 1) := by decide +kernel
theorem dX8_check_63 : decode cX8_check 63 = .ok (.istore_n 3, 1) := by decide +kernel
theorem dX8_check_64 : decode cX8_check 64 = .ok (.iconst 0, 1) := by decide +kernel
theorem dX8_check_65 : decode cX8_check 65 = .ok (.istore 4, 2) := by decide +kernel
theorem dX8_check_67 : decode cX8_check 67 = .ok (.iload 4, 2) := by decide +kernel
theorem dX8_check_69 : decode cX8_check 69 = .ok (.iload_n 3, 1) := by decide +kernel
theorem dX8_check_70 : decode cX8_check 70 = .ok (.if_icmp .ge 81, 3) := by decide +kernel
theorem dX8_check_73 : decode cX8_check 73 = .ok (.iload 4, 2) := by decide +kernel
theorem dX8_check_75 : decode cX8_check 75 = .ok (.iconst 2, 1) := by decide +kernel
theorem dX8_check_76 : decode cX8_check 76 = .ok (.irem, 1) := by decide +kernel
theorem dX8_check_77 : decode cX8_check 77 = .ok (.ifCond .ne 7, 3) := by decide +kernel
theorem dX8_check_80 : decode cX8_check 80 = .ok (.iconst 1, 1) := by decide +kernel
theorem dX8_check_81 : decode cX8_check 81 = .ok (.goto 4, 3) := by decide +kernel
theorem dX8_check_84 : decode cX8_check 84 = .ok (.iconst 0, 1) := by decide +kernel
theorem dX8_check_85 : decode cX8_check 85 = .ok (.istore 5, 2) := by decide +kernel
theorem dX8_check_87 : decode cX8_check 87 = .ok (.iload 5, 2) := by decide +kernel
theorem dX8_check_89 : decode cX8_check 89 = .ok (.ifCond .eq 11, 3) := by decide +kernel
theorem dX8_check_92 : decode cX8_check 92 = .ok (.aload_n 0, 1) := by decide +kernel
theorem dX8_check_93 : decode cX8_check 93 = .ok (.getfield 19, 3) := by decide +kernel
theorem dX8_check_96 : decode cX8_check 96 = .ok (.iconst 1, 1) := by decide +kernel
theorem dX8_check_97 : decode cX8_check 97 = .ok (.invokevirtual 155, 3) := by decide +kernel
theorem dX8_check_100 : decode cX8_check 100 = .ok (.iload 4, 2) := by decide +kernel
theorem dX8_check_102 : decode cX8_check 102 = .ok (.iload_n 2, 1) := by decide +kernel
theorem dX8_check_103 : decode cX8_check 103 = .ok (.if_icmp .ge 37, 3) := by decide +kernel
theorem dX8_check_106 : decode cX8_check 106 = .ok (.aload_n 0, 1) := by decide +kernel
theorem dX8_check_107 : decode cX8_check 107 = .ok (.getfield 55, 3) := by decide +kernel
theorem dX8_check_110 : decode cX8_check 110 = .ok (.iload 4, 2) := by decide +kernel
theorem dX8_check_112 : decode cX8_check 112 = .ok (.iaload, 1) := by decide +kernel
theorem dX8_check_113 : decode cX8_check 113 = .ok (.iload 5, 2) := by decide +kernel
theorem dX8_check_115 : decode cX8_check 115 = .ok (.ifCond .eq 13, 3) := by decide +kernel
theorem dX8_check_118 : decode cX8_check 118 = .ok (.aload_n 0, 1) := by decide +kernel
theorem dX8_check_119 : decode cX8_check 119 = .ok (.getfield 19, 3) := by decide +kernel
theorem dX8_check_122 : decode cX8_check 122 = .ok (.getfield 149, 3) := by decide +kernel
theorem dX8_check_125 : decode cX8_check 125 = .ok (.goto 12, 3) := by decide +kernel
theorem dX8_check_128 : decode cX8_check 128 = .ok (.aload_n 0, 1) := by decide +kernel
theorem dX8_check_129 : decode cX8_check 129 = .ok (.getfield 19, 3) := by decide +kernel
theorem dX8_check_132 : decode cX8_check 132 = .ok (.getfield 165, 3) := by decide +kernel
theorem dX8_check_135 : decode cX8_check 135 = .ok (.iconst 0, 1) := by decide +kernel
theorem dX8_check_136 : decode cX8_check 136 = .ok (.iaload, 1) := by decide +kernel
theorem dX8_check_137 : decode cX8_check 137 = .ok (.if_icmp .eq 8, 3) := by decide +kernel
theorem dX8_check_140 : decode cX8_check 140 = .ok (.iconst 1, 1) := by decide +kernel
theorem dX8_check_141 : decode cX8_check 141 = .ok (.iload 4, 2) := by decide +kernel
theorem dX8_check_143 : decode cX8_check 143 = .ok (.iadd, 1) := by decide +kernel
theorem dX8_check_144 : decode cX8_check 144 = .ok (.ireturn, 1) := by decide +kernel
theorem dX8_check_145 : decode cX8_check 145 = .ok (.iinc 4 1, 3) := by decide +kernel
theorem dX8_check_148 : decode cX8_check 148 = .ok (.goto (-81), 3) := by decide +kernel
theorem dX8_check_151 : decode cX8_check 151 = .ok (.iload_n 2, 1) := by decide +kernel
theorem dX8_check_152 : decode cX8_check 152 = .ok (.iload_n 3, 1) := by decide +kernel
theorem dX8_check_153 : decode cX8_check 153 = .ok (.if_icmp .le 9, 3) := by decide +kernel
theorem dX8_check_156 : decode cX8_check 156 = .ok (.iconst 1, 1) := by decide +kernel
theorem dX8_check_157 : decode cX8_check 157 = .ok (.iload_n 3, 1) := by decide +kernel
theorem dX8_check_158 : decode cX8_check 158 = .ok (.iadd, 1) := by decide +kernel
theorem dX8_check_159 : decode cX8_check 159 = .ok (.goto 4, 3) := by decide +kernel
theorem dX8_check_162 : decode cX8_check 162 = .ok (.iconst 0, 1) := by decide +kernel
theorem dX8_check_163 : decode cX8_check 163 = .ok (.ireturn, 1) := by decide +kernel
theorem dX8_keep_0 : decode cX8_keep 0 = .ok (.aload_n 0, 1) := by decide +kernel
theorem dX8_keep_1 : decode cX8_keep 1 = .ok (.getfield 16, 3) := by decide +kernel
theorem dX8_keep_4 : decode cX8_keep 4 = .ok (.aload_n 0, 1) := by decide +kernel
theorem dX8_keep_5 : decode cX8_keep 5 = .ok (.getfield 12, 3) := by decide +kernel
theorem dX8_keep_8 : decode cX8_keep 8 = .ok (.invokevirtual 217, 3) := by decide +kernel
theorem dX8_keep_11 : decode cX8_keep 11 = .ok (.aload_n 0, 1) := by decide +kernel
theorem dX8_keep_12 : decode cX8_keep 12 = .ok (.iconst 1, 1) := by decide +kernel
theorem dX8_keep_13 : decode cX8_keep 13 = .ok (.putfield 22, 3) := by decide +kernel
theorem dX8_keep_16 : decode cX8_keep 16 = .ok (.aload_n 0, 1) := by decide +kernel
theorem dX8_keep_17 : decode cX8_keep 17 = .ok (.getfield 12, 3) := by decide +kernel
theorem dX8_keep_20 : decode cX8_keep 20 = .ok (.getfield 81, 3) := by decide +kernel
theorem dX8_keep_23 : decode cX8_keep 23 = .ok (.ireturn, 1) := by decide +kernel
theorem dX8_back_0 : decode cX8_back 0 = .ok (.aload_n 0, 1) := by decide +kernel
theorem dX8_back_1 : decode cX8_back 1 = .ok (.getfield 22, 3) := by decide +kernel
theorem dX8_back_4 : decode cX8_back 4 = .ok (.ifCond .ne 7, 3) := by decide +kernel
theorem dX8_back_7 : decode cX8_back 7 = .ok (.ldc_w 315, 3) := by decide +kernel
theorem dX8_back_10 : decode cX8_back 10 = .ok (.ireturn, 1) := by decide +kernel
theorem dX8_back_11 : decode cX8_back 11 = .ok (.aload_n 0, 1) := by decide +kernel
theorem dX8_back_12 : decode cX8_back 12 = .ok (.getfield 12, 3) := by decide +kernel
theorem dX8_back_15 : decode cX8_back 15 = .ok (.aload_n 0, 1) := by decide +kernel
theorem dX8_back_16 : decode cX8_back 16 = .ok (.getfield 16, 3) := by decide +kernel
theorem dX8_back_19 : decode cX8_back 19 = .ok (.invokevirtual 217, 3) := by decide +kernel
theorem dX8_back_22 : decode cX8_back 22 = .ok (.aload_n 0, 1) := by decide +kernel
theorem dX8_back_23 : decode cX8_back 23 = .ok (.getfield 12, 3) := by decide +kernel
theorem dX8_back_26 : decode cX8_back 26 = .ok (.getfield 81, 3) := by decide +kernel
theorem dX8_back_29 : decode cX8_back 29 = .ok (.ireturn, 1) := by decide +kernel
theorem dX8_count_0 : decode cX8_count 0 = .ok (.iload_n 1, 1) := by decide +kernel
theorem dX8_count_1 : decode cX8_count 1 = .ok (.tableswitch 105 0 7 #[47, 55, 63, 71, 79, 87, 92, 97], 47) := by decide +kernel
theorem dX8_count_48 : decode cX8_count 48 = .ok (.aload_n 0, 1) := by decide +kernel
theorem dX8_count_49 : decode cX8_count 49 = .ok (.getfield 12, 3) := by decide +kernel
theorem dX8_count_52 : decode cX8_count 52 = .ok (.getfield 81, 3) := by decide +kernel
theorem dX8_count_55 : decode cX8_count 55 = .ok (.ireturn, 1) := by decide +kernel
theorem dX8_count_56 : decode cX8_count 56 = .ok (.aload_n 0, 1) := by decide +kernel
theorem dX8_count_57 : decode cX8_count 57 = .ok (.getfield 12, 3) := by decide +kernel
theorem dX8_count_60 : decode cX8_count 60 = .ok (.getfield 152, 3) := by decide +kernel
theorem dX8_count_63 : decode cX8_count 63 = .ok (.ireturn, 1) := by decide +kernel
theorem dX8_count_64 : decode cX8_count 64 = .ok (.aload_n 0, 1) := by decide +kernel
theorem dX8_count_65 : decode cX8_count 65 = .ok (.getfield 12, 3) := by decide +kernel
theorem dX8_count_68 : decode cX8_count 68 = .ok (.getfield 131, 3) := by decide +kernel
theorem dX8_count_71 : decode cX8_count 71 = .ok (.ireturn, 1) := by decide +kernel
theorem dX8_count_72 : decode cX8_count 72 = .ok (.aload_n 0, 1) := by decide +kernel
theorem dX8_count_73 : decode cX8_count 73 = .ok (.getfield 12, 3) := by decide +kernel
theorem dX8_count_76 : decode cX8_count 76 = .ok (.getfield 134, 3) := by decide +kernel
theorem dX8_count_79 : decode cX8_count 79 = .ok (.ireturn, 1) := by decide +kernel
theorem dX8_count_80 : decode cX8_count 80 = .ok (.aload_n 0, 1) := by decide +kernel
theorem dX8_count_81 : decode cX8_count 81 = .ok (.getfield 12, 3) := by decide +kernel
theorem dX8_count_84 : decode cX8_count 84 = .ok (.getfield 243, 3) := by decide +kernel
theorem dX8_count_87 : decode cX8_count 87 = .ok (.ireturn, 1) := by decide +kernel
theorem dX8_count_88 : decode cX8_count 88 = .ok (.aload_n 0, 1) := by decide +kernel
theorem dX8_count_89 : decode cX8_count 89 = .ok (.getfield 59, 3) := by decide +kernel
theorem dX8_count_92 : decode cX8_count 92 = .ok (.ireturn, 1) := by decide +kernel
theorem dX8_count_93 : decode cX8_count 93 = .ok (.aload_n 0, 1) := by decide +kernel
theorem dX8_count_94 : decode cX8_count 94 = .ok (.getfield 51, 3) := by decide +kernel
theorem dX8_count_97 : decode cX8_count 97 = .ok (.ireturn, 1) := by decide +kernel
theorem dX8_count_98 : decode cX8_count 98 = .ok (.aload_n 0, 1) := by decide +kernel
theorem dX8_count_99 : decode cX8_count 99 = .ok (.getfield 12, 3) := by decide +kernel
theorem dX8_count_102 : decode cX8_count 102 = .ok (.getfield 146, 3) := by decide +kernel
theorem dX8_count_105 : decode cX8_count 105 = .ok (.ireturn, 1) := by decide +kernel
theorem dX8_count_106 : decode cX8_count 106 = .ok (.ldc 80, 2) := by decide +kernel
theorem dX8_count_108 : decode cX8_count 108 = .ok (.ireturn, 1) := by decide +kernel
theorem dX8_putBytes_0 : decode cX8_putBytes 0 = .ok (.bipush 24, 2) := by decide +kernel
theorem dX8_putBytes_2 : decode cX8_putBytes 2 = .ok (.istore_n 2, 1) := by decide +kernel
theorem dX8_putBytes_3 : decode cX8_putBytes 3 = .ok (.iload_n 2, 1) := by decide +kernel
theorem dX8_putBytes_4 : decode cX8_putBytes 4 = .ok (.ifCond .lt 41, 3) := by decide +kernel
theorem dX8_putBytes_7 : decode cX8_putBytes 7 = .ok (.aload_n 0, 1) := by decide +kernel
theorem dX8_putBytes_8 : decode cX8_putBytes 8 = .ok (.getfield 51, 3) := by decide +kernel
theorem dX8_putBytes_11 : decode cX8_putBytes 11 = .ok (.bipush 96, 2) := by decide +kernel
theorem dX8_putBytes_13 : decode cX8_putBytes 13 = .ok (.if_icmp .ge 32, 3) := by decide +kernel
theorem dX8_putBytes_16 : decode cX8_putBytes 16 = .ok (.aload_n 0, 1) := by decide +kernel
theorem dX8_putBytes_17 : decode cX8_putBytes 17 = .ok (.getfield 47, 3) := by decide +kernel
theorem dX8_putBytes_20 : decode cX8_putBytes 20 = .ok (.aload_n 0, 1) := by decide +kernel
theorem dX8_putBytes_21 : decode cX8_putBytes 21 = .ok (.getfield 51, 3) := by decide +kernel
theorem dX8_putBytes_24 : decode cX8_putBytes 24 = .ok (.iload_n 1, 1) := by decide +kernel
theorem dX8_putBytes_25 : decode cX8_putBytes 25 = .ok (.iload_n 2, 1) := by decide +kernel
theorem dX8_putBytes_26 : decode cX8_putBytes 26 = .ok (.iushr, 1) := by decide +kernel
theorem dX8_putBytes_27 : decode cX8_putBytes 27 = .ok (.i2b, 1) := by decide +kernel
theorem dX8_putBytes_28 : decode cX8_putBytes 28 = .ok (.bastore, 1) := by decide +kernel
theorem dX8_putBytes_29 : decode cX8_putBytes 29 = .ok (.aload_n 0, 1) := by decide +kernel
theorem dX8_putBytes_30 : decode cX8_putBytes 30 = .ok (.dup, 1) := by decide +kernel
theorem dX8_putBytes_31 : decode cX8_putBytes 31 = .ok (.getfield 51, 3) := by decide +kernel
theorem dX8_putBytes_34 : decode cX8_putBytes 34 = .ok (.iconst 1, 1) := by decide +kernel
theorem dX8_putBytes_35 : decode cX8_putBytes 35 = .ok (.iadd, 1) := by decide +kernel
theorem dX8_putBytes_36 : decode cX8_putBytes 36 = .ok (.putfield 51, 3) := by decide +kernel
theorem dX8_putBytes_39 : decode cX8_putBytes 39 = .ok (.iinc 2 (-8), 3) := by decide +kernel
theorem dX8_putBytes_42 : decode cX8_putBytes 42 = .ok (.goto (-39), 3) := by decide +kernel
theorem dX8_putBytes_45 : decode cX8_putBytes 45 = .ok (.return_, 1) := by decide +kernel
theorem dX8_within_0 : decode cX8_within 0 = .ok (.iload_n 0, 1) := by decide +kernel
theorem dX8_within_1 : decode cX8_within 1 = .ok (.ifCond .lt 12, 3) := by decide +kernel
theorem dX8_within_4 : decode cX8_within 4 = .ok (.iload_n 0, 1) := by decide +kernel
theorem dX8_within_5 : decode cX8_within 5 = .ok (.iload_n 1, 1) := by decide +kernel
theorem dX8_within_6 : decode cX8_within 6 = .ok (.if_icmp .ge 7, 3) := by decide +kernel
theorem dX8_within_9 : decode cX8_within 9 = .ok (.iconst 1, 1) := by decide +kernel
theorem dX8_within_10 : decode cX8_within 10 = .ok (.goto 4, 3) := by decide +kernel
theorem dX8_within_13 : decode cX8_within 13 = .ok (.iconst 0, 1) := by decide +kernel
theorem dX8_within_14 : decode cX8_within 14 = .ok (.ireturn, 1) := by decide +kernel
theorem dX8_held_0 : decode cX8_held 0 = .ok (.iload_n 1, 1) := by decide +kernel
theorem dX8_held_1 : decode cX8_held 1 = .ok (.iload_n 2, 1) := by decide +kernel
theorem dX8_held_2 : decode cX8_held 2 = .ok (.iload_n 0, 1) := by decide +kernel
theorem dX8_held_3 : decode cX8_held 3 = .ok (.invokestatic 137, 3) := by decide +kernel
theorem dX8_held_6 : decode cX8_held 6 = .ok (.invokestatic 316, 3) := by decide +kernel
theorem dX8_held_9 : decode cX8_held 9 = .ok (.ireturn, 1) := by decide +kernel
theorem dX8_isUnder_0 : decode cX8_isUnder 0 = .ok (.iload_n 0, 1) := by decide +kernel
theorem dX8_isUnder_1 : decode cX8_isUnder 1 = .ok (.istore_n 2, 1) := by decide +kernel
theorem dX8_isUnder_2 : decode cX8_isUnder 2 = .ok (.iconst 0, 1) := by decide +kernel
theorem dX8_isUnder_3 : decode cX8_isUnder 3 = .ok (.istore_n 3, 1) := by decide +kernel
theorem dX8_isUnder_4 : decode cX8_isUnder 4 = .ok (.iload_n 3, 1) := by decide +kernel
theorem dX8_isUnder_5 : decode cX8_isUnder 5 = .ok (.bipush 6, 2) := by decide +kernel
theorem dX8_isUnder_7 : decode cX8_isUnder 7 = .ok (.if_icmp .ge 31, 3) := by decide +kernel
theorem dX8_isUnder_10 : decode cX8_isUnder 10 = .ok (.iload_n 2, 1) := by decide +kernel
theorem dX8_isUnder_11 : decode cX8_isUnder 11 = .ok (.bipush 6, 2) := by decide +kernel
theorem dX8_isUnder_13 : decode cX8_isUnder 13 = .ok (.invokestatic 76, 3) := by decide +kernel
theorem dX8_isUnder_16 : decode cX8_isUnder 16 = .ok (.ifCond .eq 22, 3) := by decide +kernel
theorem dX8_isUnder_19 : decode cX8_isUnder 19 = .ok (.iload_n 2, 1) := by decide +kernel
theorem dX8_isUnder_20 : decode cX8_isUnder 20 = .ok (.iload_n 1, 1) := by decide +kernel
theorem dX8_isUnder_21 : decode cX8_isUnder 21 = .ok (.if_icmp .ne 5, 3) := by decide +kernel
theorem dX8_isUnder_24 : decode cX8_isUnder 24 = .ok (.iconst 1, 1) := by decide +kernel
theorem dX8_isUnder_25 : decode cX8_isUnder 25 = .ok (.ireturn, 1) := by decide +kernel
theorem dX8_isUnder_26 : decode cX8_isUnder 26 = .ok (.getstatic 319, 3) := by decide +kernel
theorem dX8_isUnder_29 : decode cX8_isUnder 29 = .ok (.iload_n 2, 1) := by decide +kernel
theorem dX8_isUnder_30 : decode cX8_isUnder 30 = .ok (.iaload, 1) := by decide +kernel
theorem dX8_isUnder_31 : decode cX8_isUnder 31 = .ok (.istore_n 2, 1) := by decide +kernel
theorem dX8_isUnder_32 : decode cX8_isUnder 32 = .ok (.iinc 3 1, 3) := by decide +kernel
theorem dX8_isUnder_35 : decode cX8_isUnder 35 = .ok (.goto (-31), 3) := by decide +kernel
theorem dX8_isUnder_38 : decode cX8_isUnder 38 = .ok (.iconst 0, 1) := by decide +kernel
theorem dX8_isUnder_39 : decode cX8_isUnder 39 = .ok (.ireturn, 1) := by decide +kernel
theorem dX8_fullStrokes_0 : decode cX8_fullStrokes 0 = .ok (.iload_n 0, 1) := by decide +kernel
theorem dX8_fullStrokes_1 : decode cX8_fullStrokes 1 = .ok (.lookupswitch 39 #[(3, 27), (4, 31)], 27) := by decide +kernel
theorem dX8_fullStrokes_28 : decode cX8_fullStrokes 28 = .ok (.iload_n 1, 1) := by decide +kernel
theorem dX8_fullStrokes_29 : decode cX8_fullStrokes 29 = .ok (.iconst 4, 1) := by decide +kernel
theorem dX8_fullStrokes_30 : decode cX8_fullStrokes 30 = .ok (.iadd, 1) := by decide +kernel
theorem dX8_fullStrokes_31 : decode cX8_fullStrokes 31 = .ok (.ireturn, 1) := by decide +kernel
theorem dX8_fullStrokes_32 : decode cX8_fullStrokes 32 = .ok (.iload_n 1, 1) := by decide +kernel
theorem dX8_fullStrokes_33 : decode cX8_fullStrokes 33 = .ok (.iconst 5, 1) := by decide +kernel
theorem dX8_fullStrokes_34 : decode cX8_fullStrokes 34 = .ok (.idiv, 1) := by decide +kernel
theorem dX8_fullStrokes_35 : decode cX8_fullStrokes 35 = .ok (.iload_n 1, 1) := by decide +kernel
theorem dX8_fullStrokes_36 : decode cX8_fullStrokes 36 = .ok (.iconst 5, 1) := by decide +kernel
theorem dX8_fullStrokes_37 : decode cX8_fullStrokes 37 = .ok (.irem, 1) := by decide +kernel
theorem dX8_fullStrokes_38 : decode cX8_fullStrokes 38 = .ok (.iadd, 1) := by decide +kernel
theorem dX8_fullStrokes_39 : decode cX8_fullStrokes 39 = .ok (.ireturn, 1) := by decide +kernel
theorem dX8_fullStrokes_40 : decode cX8_fullStrokes 40 = .ok (.iload_n 1, 1) := by decide +kernel
theorem dX8_fullStrokes_41 : decode cX8_fullStrokes 41 = .ok (.ireturn, 1) := by decide +kernel
theorem dX8_strokesWithin_0 : decode cX8_strokesWithin 0 = .ok (.iload_n 2, 1) := by decide +kernel
theorem dX8_strokesWithin_1 : decode cX8_strokesWithin 1 = .ok (.ifCond .ne 9, 3) := by decide +kernel
theorem dX8_strokesWithin_4 : decode cX8_strokesWithin 4 = .ok (.iload_n 0, 1) := by decide +kernel
theorem dX8_strokesWithin_5 : decode cX8_strokesWithin 5 = .ok (.iload_n 1, 1) := by decide +kernel
theorem dX8_strokesWithin_6 : decode cX8_strokesWithin 6 = .ok (.invokestatic 322, 3) := by decide +kernel
theorem dX8_strokesWithin_9 : decode cX8_strokesWithin 9 = .ok (.ireturn, 1) := by decide +kernel
theorem dX8_strokesWithin_10 : decode cX8_strokesWithin 10 = .ok (.iload_n 0, 1) := by decide +kernel
theorem dX8_strokesWithin_11 : decode cX8_strokesWithin 11 = .ok (.tableswitch 76 1 5 #[33, 49, 33, 49, 64], 33) := by decide +kernel
theorem dX8_strokesWithin_44 : decode cX8_strokesWithin 44 = .ok (.iload_n 2, 1) := by decide +kernel
theorem dX8_strokesWithin_45 : decode cX8_strokesWithin 45 = .ok (.bipush 15, 2) := by decide +kernel
theorem dX8_strokesWithin_47 : decode cX8_strokesWithin 47 = .ok (.irem, 1) := by decide +kernel
theorem dX8_strokesWithin_48 : decode cX8_strokesWithin 48 = .ok (.ifCond .ne 10, 3) := by decide +kernel
theorem dX8_strokesWithin_51 : decode cX8_strokesWithin 51 = .ok (.iload_n 2, 1) := by decide +kernel
theorem dX8_strokesWithin_52 : decode cX8_strokesWithin 52 = .ok (.bipush 15, 2) := by decide +kernel
theorem dX8_strokesWithin_54 : decode cX8_strokesWithin 54 = .ok (.idiv, 1) := by decide +kernel
theorem dX8_strokesWithin_55 : decode cX8_strokesWithin 55 = .ok (.goto 4, 3) := by decide +kernel
theorem dX8_strokesWithin_58 : decode cX8_strokesWithin 58 = .ok (.iconst 0, 1) := by decide +kernel
theorem dX8_strokesWithin_59 : decode cX8_strokesWithin 59 = .ok (.ireturn, 1) := by decide +kernel
theorem dX8_strokesWithin_60 : decode cX8_strokesWithin 60 = .ok (.iload_n 2, 1) := by decide +kernel
theorem dX8_strokesWithin_61 : decode cX8_strokesWithin 61 = .ok (.iload_n 3, 1) := by decide +kernel
theorem dX8_strokesWithin_62 : decode cX8_strokesWithin 62 = .ok (.if_icmp .ne 11, 3) := by decide +kernel
theorem dX8_strokesWithin_65 : decode cX8_strokesWithin 65 = .ok (.iload_n 0, 1) := by decide +kernel
theorem dX8_strokesWithin_66 : decode cX8_strokesWithin 66 = .ok (.iload_n 1, 1) := by decide +kernel
theorem dX8_strokesWithin_67 : decode cX8_strokesWithin 67 = .ok (.invokestatic 322, 3) := by decide +kernel
theorem dX8_strokesWithin_70 : decode cX8_strokesWithin 70 = .ok (.goto 4, 3) := by decide +kernel
theorem dX8_strokesWithin_73 : decode cX8_strokesWithin 73 = .ok (.iconst 0, 1) := by decide +kernel
theorem dX8_strokesWithin_74 : decode cX8_strokesWithin 74 = .ok (.ireturn, 1) := by decide +kernel
theorem dX8_strokesWithin_75 : decode cX8_strokesWithin 75 = .ok (.iload_n 2, 1) := by decide +kernel
theorem dX8_strokesWithin_76 : decode cX8_strokesWithin 76 = .ok (.bipush 30, 2) := by decide +kernel
theorem dX8_strokesWithin_78 : decode cX8_strokesWithin 78 = .ok (.if_icmp .ne 7, 3) := by decide +kernel
theorem dX8_strokesWithin_81 : decode cX8_strokesWithin 81 = .ok (.iconst 1, 1) := by decide +kernel
theorem dX8_strokesWithin_82 : decode cX8_strokesWithin 82 = .ok (.goto 4, 3) := by decide +kernel
theorem dX8_strokesWithin_85 : decode cX8_strokesWithin 85 = .ok (.iconst 0, 1) := by decide +kernel
theorem dX8_strokesWithin_86 : decode cX8_strokesWithin 86 = .ok (.ireturn, 1) := by decide +kernel
theorem dX8_strokesWithin_87 : decode cX8_strokesWithin 87 = .ok (.iconst 0, 1) := by decide +kernel
theorem dX8_strokesWithin_88 : decode cX8_strokesWithin 88 = .ok (.ireturn, 1) := by decide +kernel
theorem dJ11_isValidCodePoint_9a6ad_0 : decode cJ11_isValidCodePoint_9a6ad 0 = .ok (.iload_n 0, 1) := by decide +kernel
theorem dJ11_isValidCodePoint_9a6ad_1 : decode cJ11_isValidCodePoint_9a6ad 1 = .ok (.bipush 16, 2) := by decide +kernel
theorem dJ11_isValidCodePoint_9a6ad_3 : decode cJ11_isValidCodePoint_9a6ad 3 = .ok (.iushr, 1) := by decide +kernel
theorem dJ11_isValidCodePoint_9a6ad_4 : decode cJ11_isValidCodePoint_9a6ad 4 = .ok (.istore_n 1, 1) := by decide +kernel
theorem dJ11_isValidCodePoint_9a6ad_5 : decode cJ11_isValidCodePoint_9a6ad 5 = .ok (.iload_n 1, 1) := by decide +kernel
theorem dJ11_isValidCodePoint_9a6ad_6 : decode cJ11_isValidCodePoint_9a6ad 6 = .ok (.bipush 17, 2) := by decide +kernel
theorem dJ11_isValidCodePoint_9a6ad_8 : decode cJ11_isValidCodePoint_9a6ad 8 = .ok (.if_icmp .ge 7, 3) := by decide +kernel
theorem dJ11_isValidCodePoint_9a6ad_11 : decode cJ11_isValidCodePoint_9a6ad 11 = .ok (.iconst 1, 1) := by decide +kernel
theorem dJ11_isValidCodePoint_9a6ad_12 : decode cJ11_isValidCodePoint_9a6ad 12 = .ok (.goto 4, 3) := by decide +kernel
theorem dJ11_isValidCodePoint_9a6ad_15 : decode cJ11_isValidCodePoint_9a6ad 15 = .ok (.iconst 0, 1) := by decide +kernel
theorem dJ11_isValidCodePoint_9a6ad_16 : decode cJ11_isValidCodePoint_9a6ad 16 = .ok (.ireturn, 1) := by decide +kernel
theorem dJ11_highSurrogate_5068e_0 : decode cJ11_highSurrogate_5068e 0 = .ok (.iload_n 0, 1) := by decide +kernel
theorem dJ11_highSurrogate_5068e_1 : decode cJ11_highSurrogate_5068e 1 = .ok (.bipush 10, 2) := by decide +kernel
theorem dJ11_highSurrogate_5068e_3 : decode cJ11_highSurrogate_5068e 3 = .ok (.iushr, 1) := by decide +kernel
theorem dJ11_highSurrogate_5068e_4 : decode cJ11_highSurrogate_5068e 4 = .ok (.ldc 110, 2) := by decide +kernel
theorem dJ11_highSurrogate_5068e_6 : decode cJ11_highSurrogate_5068e 6 = .ok (.iadd, 1) := by decide +kernel
theorem dJ11_highSurrogate_5068e_7 : decode cJ11_highSurrogate_5068e 7 = .ok (.i2c, 1) := by decide +kernel
theorem dJ11_highSurrogate_5068e_8 : decode cJ11_highSurrogate_5068e 8 = .ok (.ireturn, 1) := by decide +kernel
theorem dJ11_lowSurrogate_5068e_0 : decode cJ11_lowSurrogate_5068e 0 = .ok (.iload_n 0, 1) := by decide +kernel
theorem dJ11_lowSurrogate_5068e_1 : decode cJ11_lowSurrogate_5068e 1 = .ok (.sipush 1023, 3) := by decide +kernel
theorem dJ11_lowSurrogate_5068e_4 : decode cJ11_lowSurrogate_5068e 4 = .ok (.iand, 1) := by decide +kernel
theorem dJ11_lowSurrogate_5068e_5 : decode cJ11_lowSurrogate_5068e 5 = .ok (.ldc 76, 2) := by decide +kernel
theorem dJ11_lowSurrogate_5068e_7 : decode cJ11_lowSurrogate_5068e 7 = .ok (.iadd, 1) := by decide +kernel
theorem dJ11_lowSurrogate_5068e_8 : decode cJ11_lowSurrogate_5068e 8 = .ok (.i2c, 1) := by decide +kernel
theorem dJ11_lowSurrogate_5068e_9 : decode cJ11_lowSurrogate_5068e 9 = .ok (.ireturn, 1) := by decide +kernel
theorem dJ6_bitCount_0f7a4_0 : decode cJ6_bitCount_0f7a4 0 = .ok (.iload_n 0, 1) := by decide +kernel
theorem dJ6_bitCount_0f7a4_1 : decode cJ6_bitCount_0f7a4 1 = .ok (.iload_n 0, 1) := by decide +kernel
theorem dJ6_bitCount_0f7a4_2 : decode cJ6_bitCount_0f7a4 2 = .ok (.iconst 1, 1) := by decide +kernel
theorem dJ6_bitCount_0f7a4_3 : decode cJ6_bitCount_0f7a4 3 = .ok (.iushr, 1) := by decide +kernel
theorem dJ6_bitCount_0f7a4_4 : decode cJ6_bitCount_0f7a4 4 = .ok (.ldc_w 265, 3) := by decide +kernel
theorem dJ6_bitCount_0f7a4_7 : decode cJ6_bitCount_0f7a4 7 = .ok (.iand, 1) := by decide +kernel
theorem dJ6_bitCount_0f7a4_8 : decode cJ6_bitCount_0f7a4 8 = .ok (.isub, 1) := by decide +kernel
theorem dJ6_bitCount_0f7a4_9 : decode cJ6_bitCount_0f7a4 9 = .ok (.istore_n 0, 1) := by decide +kernel
theorem dJ6_bitCount_0f7a4_10 : decode cJ6_bitCount_0f7a4 10 = .ok (.iload_n 0, 1) := by decide +kernel
theorem dJ6_bitCount_0f7a4_11 : decode cJ6_bitCount_0f7a4 11 = .ok (.ldc_w 266, 3) := by decide +kernel
theorem dJ6_bitCount_0f7a4_14 : decode cJ6_bitCount_0f7a4 14 = .ok (.iand, 1) := by decide +kernel
theorem dJ6_bitCount_0f7a4_15 : decode cJ6_bitCount_0f7a4 15 = .ok (.iload_n 0, 1) := by decide +kernel
theorem dJ6_bitCount_0f7a4_16 : decode cJ6_bitCount_0f7a4 16 = .ok (.iconst 2, 1) := by decide +kernel
theorem dJ6_bitCount_0f7a4_17 : decode cJ6_bitCount_0f7a4 17 = .ok (.iushr, 1) := by decide +kernel
theorem dJ6_bitCount_0f7a4_18 : decode cJ6_bitCount_0f7a4 18 = .ok (.ldc_w 266, 3) := by decide +kernel
theorem dJ6_bitCount_0f7a4_21 : decode cJ6_bitCount_0f7a4 21 = .ok (.iand, 1) := by decide +kernel
theorem dJ6_bitCount_0f7a4_22 : decode cJ6_bitCount_0f7a4 22 = .ok (.iadd, 1) := by decide +kernel
theorem dJ6_bitCount_0f7a4_23 : decode cJ6_bitCount_0f7a4 23 = .ok (.istore_n 0, 1) := by decide +kernel
theorem dJ6_bitCount_0f7a4_24 : decode cJ6_bitCount_0f7a4 24 = .ok (.iload_n 0, 1) := by decide +kernel
theorem dJ6_bitCount_0f7a4_25 : decode cJ6_bitCount_0f7a4 25 = .ok (.iload_n 0, 1) := by decide +kernel
theorem dJ6_bitCount_0f7a4_26 : decode cJ6_bitCount_0f7a4 26 = .ok (.iconst 4, 1) := by decide +kernel
theorem dJ6_bitCount_0f7a4_27 : decode cJ6_bitCount_0f7a4 27 = .ok (.iushr, 1) := by decide +kernel
theorem dJ6_bitCount_0f7a4_28 : decode cJ6_bitCount_0f7a4 28 = .ok (.iadd, 1) := by decide +kernel
theorem dJ6_bitCount_0f7a4_29 : decode cJ6_bitCount_0f7a4 29 = .ok (.ldc_w 267, 3) := by decide +kernel
theorem dJ6_bitCount_0f7a4_32 : decode cJ6_bitCount_0f7a4 32 = .ok (.iand, 1) := by decide +kernel
theorem dJ6_bitCount_0f7a4_33 : decode cJ6_bitCount_0f7a4 33 = .ok (.istore_n 0, 1) := by decide +kernel
theorem dJ6_bitCount_0f7a4_34 : decode cJ6_bitCount_0f7a4 34 = .ok (.iload_n 0, 1) := by decide +kernel
theorem dJ6_bitCount_0f7a4_35 : decode cJ6_bitCount_0f7a4 35 = .ok (.iload_n 0, 1) := by decide +kernel
theorem dJ6_bitCount_0f7a4_36 : decode cJ6_bitCount_0f7a4 36 = .ok (.bipush 8, 2) := by decide +kernel
theorem dJ6_bitCount_0f7a4_38 : decode cJ6_bitCount_0f7a4 38 = .ok (.iushr, 1) := by decide +kernel
theorem dJ6_bitCount_0f7a4_39 : decode cJ6_bitCount_0f7a4 39 = .ok (.iadd, 1) := by decide +kernel
theorem dJ6_bitCount_0f7a4_40 : decode cJ6_bitCount_0f7a4 40 = .ok (.istore_n 0, 1) := by decide +kernel
theorem dJ6_bitCount_0f7a4_41 : decode cJ6_bitCount_0f7a4 41 = .ok (.iload_n 0, 1) := by decide +kernel
theorem dJ6_bitCount_0f7a4_42 : decode cJ6_bitCount_0f7a4 42 = .ok (.iload_n 0, 1) := by decide +kernel
theorem dJ6_bitCount_0f7a4_43 : decode cJ6_bitCount_0f7a4 43 = .ok (.bipush 16, 2) := by decide +kernel
theorem dJ6_bitCount_0f7a4_45 : decode cJ6_bitCount_0f7a4 45 = .ok (.iushr, 1) := by decide +kernel
theorem dJ6_bitCount_0f7a4_46 : decode cJ6_bitCount_0f7a4 46 = .ok (.iadd, 1) := by decide +kernel
theorem dJ6_bitCount_0f7a4_47 : decode cJ6_bitCount_0f7a4 47 = .ok (.istore_n 0, 1) := by decide +kernel
theorem dJ6_bitCount_0f7a4_48 : decode cJ6_bitCount_0f7a4 48 = .ok (.iload_n 0, 1) := by decide +kernel
theorem dJ6_bitCount_0f7a4_49 : decode cJ6_bitCount_0f7a4 49 = .ok (.bipush 63, 2) := by decide +kernel
theorem dJ6_bitCount_0f7a4_51 : decode cJ6_bitCount_0f7a4 51 = .ok (.iand, 1) := by decide +kernel
theorem dJ6_bitCount_0f7a4_52 : decode cJ6_bitCount_0f7a4 52 = .ok (.ireturn, 1) := by decide +kernel
theorem dJ9_floorMod_7cf53_0 : decode cJ9_floorMod_7cf53 0 = .ok (.iload_n 0, 1) := by decide +kernel
theorem dJ9_floorMod_7cf53_1 : decode cJ9_floorMod_7cf53 1 = .ok (.iload_n 1, 1) := by decide +kernel
theorem dJ9_floorMod_7cf53_2 : decode cJ9_floorMod_7cf53 2 = .ok (.irem, 1) := by decide +kernel
theorem dJ9_floorMod_7cf53_3 : decode cJ9_floorMod_7cf53 3 = .ok (.istore_n 2, 1) := by decide +kernel
theorem dJ9_floorMod_7cf53_4 : decode cJ9_floorMod_7cf53 4 = .ok (.iload_n 0, 1) := by decide +kernel
theorem dJ9_floorMod_7cf53_5 : decode cJ9_floorMod_7cf53 5 = .ok (.iload_n 1, 1) := by decide +kernel
theorem dJ9_floorMod_7cf53_6 : decode cJ9_floorMod_7cf53 6 = .ok (.ixor, 1) := by decide +kernel
theorem dJ9_floorMod_7cf53_7 : decode cJ9_floorMod_7cf53 7 = .ok (.ifCond .ge 11, 3) := by decide +kernel
theorem dJ9_floorMod_7cf53_10 : decode cJ9_floorMod_7cf53 10 = .ok (.iload_n 2, 1) := by decide +kernel
theorem dJ9_floorMod_7cf53_11 : decode cJ9_floorMod_7cf53 11 = .ok (.ifCond .eq 7, 3) := by decide +kernel
theorem dJ9_floorMod_7cf53_14 : decode cJ9_floorMod_7cf53 14 = .ok (.iload_n 2, 1) := by decide +kernel
theorem dJ9_floorMod_7cf53_15 : decode cJ9_floorMod_7cf53 15 = .ok (.iload_n 1, 1) := by decide +kernel
theorem dJ9_floorMod_7cf53_16 : decode cJ9_floorMod_7cf53 16 = .ok (.iadd, 1) := by decide +kernel
theorem dJ9_floorMod_7cf53_17 : decode cJ9_floorMod_7cf53 17 = .ok (.ireturn, 1) := by decide +kernel
theorem dJ9_floorMod_7cf53_18 : decode cJ9_floorMod_7cf53 18 = .ok (.iload_n 2, 1) := by decide +kernel
theorem dJ9_floorMod_7cf53_19 : decode cJ9_floorMod_7cf53 19 = .ok (.ireturn, 1) := by decide +kernel
theorem dJ9_abs_0f7a4_0 : decode cJ9_abs_0f7a4 0 = .ok (.iload_n 0, 1) := by decide +kernel
theorem dJ9_abs_0f7a4_1 : decode cJ9_abs_0f7a4 1 = .ok (.ifCond .ge 8, 3) := by decide +kernel
theorem dJ9_abs_0f7a4_4 : decode cJ9_abs_0f7a4 4 = .ok (.iload_n 0, 1) := by decide +kernel
theorem dJ9_abs_0f7a4_5 : decode cJ9_abs_0f7a4 5 = .ok (.ineg, 1) := by decide +kernel
theorem dJ9_abs_0f7a4_6 : decode cJ9_abs_0f7a4 6 = .ok (.goto 4, 3) := by decide +kernel
theorem dJ9_abs_0f7a4_9 : decode cJ9_abs_0f7a4 9 = .ok (.iload_n 0, 1) := by decide +kernel
theorem dJ9_abs_0f7a4_10 : decode cJ9_abs_0f7a4 10 = .ok (.ireturn, 1) := by decide +kernel
theorem dJ9_max_7cf53_0 : decode cJ9_max_7cf53 0 = .ok (.iload_n 0, 1) := by decide +kernel
theorem dJ9_max_7cf53_1 : decode cJ9_max_7cf53 1 = .ok (.iload_n 1, 1) := by decide +kernel
theorem dJ9_max_7cf53_2 : decode cJ9_max_7cf53 2 = .ok (.if_icmp .lt 7, 3) := by decide +kernel
theorem dJ9_max_7cf53_5 : decode cJ9_max_7cf53 5 = .ok (.iload_n 0, 1) := by decide +kernel
theorem dJ9_max_7cf53_6 : decode cJ9_max_7cf53 6 = .ok (.goto 4, 3) := by decide +kernel
theorem dJ9_max_7cf53_9 : decode cJ9_max_7cf53 9 = .ok (.iload_n 1, 1) := by decide +kernel
theorem dJ9_max_7cf53_10 : decode cJ9_max_7cf53 10 = .ok (.ireturn, 1) := by decide +kernel
theorem dJ9_min_7cf53_0 : decode cJ9_min_7cf53 0 = .ok (.iload_n 0, 1) := by decide +kernel
theorem dJ9_min_7cf53_1 : decode cJ9_min_7cf53 1 = .ok (.iload_n 1, 1) := by decide +kernel
theorem dJ9_min_7cf53_2 : decode cJ9_min_7cf53 2 = .ok (.if_icmp .gt 7, 3) := by decide +kernel
theorem dJ9_min_7cf53_5 : decode cJ9_min_7cf53 5 = .ok (.iload_n 0, 1) := by decide +kernel
theorem dJ9_min_7cf53_6 : decode cJ9_min_7cf53 6 = .ok (.goto 4, 3) := by decide +kernel
theorem dJ9_min_7cf53_9 : decode cJ9_min_7cf53 9 = .ok (.iload_n 1, 1) := by decide +kernel
theorem dJ9_min_7cf53_10 : decode cJ9_min_7cf53 10 = .ok (.ireturn, 1) := by decide +kernel
theorem dJ0_length_8abf5_0 : decode cJ0_length_8abf5 0 = .ok (.aload_n 0, 1) := by decide +kernel
theorem dJ0_length_8abf5_1 : decode cJ0_length_8abf5 1 = .ok (.getfield 9, 3) := by decide +kernel
theorem dJ0_length_8abf5_4 : decode cJ0_length_8abf5 4 = .ok (.arraylength, 1) := by decide +kernel
theorem dJ0_length_8abf5_5 : decode cJ0_length_8abf5 5 = .ok (.aload_n 0, 1) := by decide +kernel
theorem dJ0_length_8abf5_6 : decode cJ0_length_8abf5 6 = .ok (.invokevirtual 335, 3) := by decide +kernel
theorem dJ0_length_8abf5_9 : decode cJ0_length_8abf5 9 = .ok (.ishr, 1) := by decide +kernel
theorem dJ0_length_8abf5_10 : decode cJ0_length_8abf5 10 = .ok (.ireturn, 1) := by decide +kernel
theorem dJ0_charAt_5068e_0 : decode cJ0_charAt_5068e 0 = .ok (.aload_n 0, 1) := by decide +kernel
theorem dJ0_charAt_5068e_1 : decode cJ0_charAt_5068e 1 = .ok (.invokevirtual 492, 3) := by decide +kernel
theorem dJ0_charAt_5068e_4 : decode cJ0_charAt_5068e 4 = .ok (.ifCond .eq 12, 3) := by decide +kernel
theorem dJ0_charAt_5068e_7 : decode cJ0_charAt_5068e 7 = .ok (.aload_n 0, 1) := by decide +kernel
theorem dJ0_charAt_5068e_8 : decode cJ0_charAt_5068e 8 = .ok (.getfield 9, 3) := by decide +kernel
theorem dJ0_charAt_5068e_11 : decode cJ0_charAt_5068e 11 = .ok (.iload_n 1, 1) := by decide +kernel
theorem dJ0_charAt_5068e_12 : decode cJ0_charAt_5068e 12 = .ok (.invokestatic 495, 3) := by decide +kernel
theorem dJ0_charAt_5068e_15 : decode cJ0_charAt_5068e 15 = .ok (.ireturn, 1) := by decide +kernel
theorem dJ0_charAt_5068e_16 : decode cJ0_charAt_5068e 16 = .ok (.aload_n 0, 1) := by decide +kernel
theorem dJ0_charAt_5068e_17 : decode cJ0_charAt_5068e 17 = .ok (.getfield 9, 3) := by decide +kernel
theorem dJ0_charAt_5068e_20 : decode cJ0_charAt_5068e 20 = .ok (.iload_n 1, 1) := by decide +kernel
theorem dJ0_charAt_5068e_21 : decode cJ0_charAt_5068e 21 = .ok (.invokestatic 498, 3) := by decide +kernel
theorem dJ0_charAt_5068e_24 : decode cJ0_charAt_5068e 24 = .ok (.ireturn, 1) := by decide +kernel
theorem dJ0_indexOf_0f7a4_0 : decode cJ0_indexOf_0f7a4 0 = .ok (.aload_n 0, 1) := by decide +kernel
theorem dJ0_indexOf_0f7a4_1 : decode cJ0_indexOf_0f7a4 1 = .ok (.iload_n 1, 1) := by decide +kernel
theorem dJ0_indexOf_0f7a4_2 : decode cJ0_indexOf_0f7a4 2 = .ok (.iconst 0, 1) := by decide +kernel
theorem dJ0_indexOf_0f7a4_3 : decode cJ0_indexOf_0f7a4 3 = .ok (.invokevirtual 633, 3) := by decide +kernel
theorem dJ0_indexOf_0f7a4_6 : decode cJ0_indexOf_0f7a4 6 = .ok (.ireturn, 1) := by decide +kernel
theorem dJ0_indexOf_7cf53_0 : decode cJ0_indexOf_7cf53 0 = .ok (.aload_n 0, 1) := by decide +kernel
theorem dJ0_indexOf_7cf53_1 : decode cJ0_indexOf_7cf53 1 = .ok (.invokevirtual 492, 3) := by decide +kernel
theorem dJ0_indexOf_7cf53_4 : decode cJ0_indexOf_7cf53 4 = .ok (.ifCond .eq 19, 3) := by decide +kernel
theorem dJ0_indexOf_7cf53_7 : decode cJ0_indexOf_7cf53 7 = .ok (.aload_n 0, 1) := by decide +kernel
theorem dJ0_indexOf_7cf53_8 : decode cJ0_indexOf_7cf53 8 = .ok (.getfield 9, 3) := by decide +kernel
theorem dJ0_indexOf_7cf53_11 : decode cJ0_indexOf_7cf53 11 = .ok (.iload_n 1, 1) := by decide +kernel
theorem dJ0_indexOf_7cf53_12 : decode cJ0_indexOf_7cf53 12 = .ok (.iload_n 2, 1) := by decide +kernel
theorem dJ0_indexOf_7cf53_13 : decode cJ0_indexOf_7cf53 13 = .ok (.aload_n 0, 1) := by decide +kernel
theorem dJ0_indexOf_7cf53_14 : decode cJ0_indexOf_7cf53 14 = .ok (.invokevirtual 505, 3) := by decide +kernel
theorem dJ0_indexOf_7cf53_17 : decode cJ0_indexOf_7cf53 17 = .ok (.invokestatic 637, 3) := by decide +kernel
theorem dJ0_indexOf_7cf53_20 : decode cJ0_indexOf_7cf53 20 = .ok (.goto 16, 3) := by decide +kernel
theorem dJ0_indexOf_7cf53_23 : decode cJ0_indexOf_7cf53 23 = .ok (.aload_n 0, 1) := by decide +kernel
theorem dJ0_indexOf_7cf53_24 : decode cJ0_indexOf_7cf53 24 = .ok (.getfield 9, 3) := by decide +kernel
theorem dJ0_indexOf_7cf53_27 : decode cJ0_indexOf_7cf53 27 = .ok (.iload_n 1, 1) := by decide +kernel
theorem dJ0_indexOf_7cf53_28 : decode cJ0_indexOf_7cf53 28 = .ok (.iload_n 2, 1) := by decide +kernel
theorem dJ0_indexOf_7cf53_29 : decode cJ0_indexOf_7cf53 29 = .ok (.aload_n 0, 1) := by decide +kernel
theorem dJ0_indexOf_7cf53_30 : decode cJ0_indexOf_7cf53 30 = .ok (.invokevirtual 505, 3) := by decide +kernel
theorem dJ0_indexOf_7cf53_33 : decode cJ0_indexOf_7cf53 33 = .ok (.invokestatic 640, 3) := by decide +kernel
theorem dJ0_indexOf_7cf53_36 : decode cJ0_indexOf_7cf53 36 = .ok (.ireturn, 1) := by decide +kernel
theorem dJ0_coder_7d493_0 : decode cJ0_coder_7d493 0 = .ok (.getstatic 38, 3) := by decide +kernel
theorem dJ0_coder_7d493_3 : decode cJ0_coder_7d493 3 = .ok (.ifCond .eq 10, 3) := by decide +kernel
theorem dJ0_coder_7d493_6 : decode cJ0_coder_7d493 6 = .ok (.aload_n 0, 1) := by decide +kernel
theorem dJ0_coder_7d493_7 : decode cJ0_coder_7d493 7 = .ok (.getfield 15, 3) := by decide +kernel
theorem dJ0_coder_7d493_10 : decode cJ0_coder_7d493 10 = .ok (.goto 4, 3) := by decide +kernel
theorem dJ0_coder_7d493_13 : decode cJ0_coder_7d493 13 = .ok (.iconst 1, 1) := by decide +kernel
theorem dJ0_coder_7d493_14 : decode cJ0_coder_7d493 14 = .ok (.ireturn, 1) := by decide +kernel
theorem dJ0_isLatin1_aae02_0 : decode cJ0_isLatin1_aae02 0 = .ok (.getstatic 38, 3) := by decide +kernel
theorem dJ0_isLatin1_aae02_3 : decode cJ0_isLatin1_aae02 3 = .ok (.ifCond .eq 14, 3) := by decide +kernel
theorem dJ0_isLatin1_aae02_6 : decode cJ0_isLatin1_aae02 6 = .ok (.aload_n 0, 1) := by decide +kernel
theorem dJ0_isLatin1_aae02_7 : decode cJ0_isLatin1_aae02 7 = .ok (.getfield 15, 3) := by decide +kernel
theorem dJ0_isLatin1_aae02_10 : decode cJ0_isLatin1_aae02 10 = .ok (.ifCond .ne 7, 3) := by decide +kernel
theorem dJ0_isLatin1_aae02_13 : decode cJ0_isLatin1_aae02 13 = .ok (.iconst 1, 1) := by decide +kernel
theorem dJ0_isLatin1_aae02_14 : decode cJ0_isLatin1_aae02 14 = .ok (.goto 4, 3) := by decide +kernel
theorem dJ0_isLatin1_aae02_17 : decode cJ0_isLatin1_aae02 17 = .ok (.iconst 0, 1) := by decide +kernel
theorem dJ0_isLatin1_aae02_18 : decode cJ0_isLatin1_aae02 18 = .ok (.ireturn, 1) := by decide +kernel
theorem dJ0_checkIndex_df160_0 : decode cJ0_checkIndex_df160 0 = .ok (.iload_n 0, 1) := by decide +kernel
theorem dJ0_checkIndex_df160_1 : decode cJ0_checkIndex_df160 1 = .ok (.iload_n 1, 1) := by decide +kernel
theorem dJ0_checkIndex_df160_2 : decode cJ0_checkIndex_df160 2 = .ok (.getstatic 1053, 3) := by decide +kernel
theorem dJ0_checkIndex_df160_5 : decode cJ0_checkIndex_df160 5 = .ok (.invokestatic 1059, 3) := by decide +kernel
theorem dJ0_checkIndex_df160_8 : decode cJ0_checkIndex_df160 8 = .ok (.pop, 1) := by decide +kernel
theorem dJ0_checkIndex_df160_9 : decode cJ0_checkIndex_df160 9 = .ok (.return_, 1) := by decide +kernel
theorem dJ0_checkBoundsBeginEnd_23922_0 : decode cJ0_checkBoundsBeginEnd_23922 0 = .ok (.iload_n 0, 1) := by decide +kernel
theorem dJ0_checkBoundsBeginEnd_23922_1 : decode cJ0_checkBoundsBeginEnd_23922 1 = .ok (.iload_n 1, 1) := by decide +kernel
theorem dJ0_checkBoundsBeginEnd_23922_2 : decode cJ0_checkBoundsBeginEnd_23922 2 = .ok (.iload_n 2, 1) := by decide +kernel
theorem dJ0_checkBoundsBeginEnd_23922_3 : decode cJ0_checkBoundsBeginEnd_23922 3 = .ok (.getstatic 1053, 3) := by decide +kernel
theorem dJ0_checkBoundsBeginEnd_23922_6 : decode cJ0_checkBoundsBeginEnd_23922 6 = .ok (.invokestatic 1062, 3) := by decide +kernel
theorem dJ0_checkBoundsBeginEnd_23922_9 : decode cJ0_checkBoundsBeginEnd_23922 9 = .ok (.pop, 1) := by decide +kernel
theorem dJ0_checkBoundsBeginEnd_23922_10 : decode cJ0_checkBoundsBeginEnd_23922 10 = .ok (.return_, 1) := by decide +kernel
theorem dJ1_charAt_3b067_0 : decode cJ1_charAt_3b067 0 = .ok (.iload_n 1, 1) := by decide +kernel
theorem dJ1_charAt_3b067_1 : decode cJ1_charAt_3b067 1 = .ok (.aload_n 0, 1) := by decide +kernel
theorem dJ1_charAt_3b067_2 : decode cJ1_charAt_3b067 2 = .ok (.arraylength, 1) := by decide +kernel
theorem dJ1_charAt_3b067_3 : decode cJ1_charAt_3b067 3 = .ok (.invokestatic 9, 3) := by decide +kernel
theorem dJ1_charAt_3b067_6 : decode cJ1_charAt_3b067 6 = .ok (.aload_n 0, 1) := by decide +kernel
theorem dJ1_charAt_3b067_7 : decode cJ1_charAt_3b067 7 = .ok (.iload_n 1, 1) := by decide +kernel
theorem dJ1_charAt_3b067_8 : decode cJ1_charAt_3b067 8 = .ok (.baload, 1) := by decide +kernel
theorem dJ1_charAt_3b067_9 : decode cJ1_charAt_3b067 9 = .ok (.sipush 255, 3) := by decide +kernel
theorem dJ1_charAt_3b067_12 : decode cJ1_charAt_3b067 12 = .ok (.iand, 1) := by decide +kernel
theorem dJ1_charAt_3b067_13 : decode cJ1_charAt_3b067 13 = .ok (.i2c, 1) := by decide +kernel
theorem dJ1_charAt_3b067_14 : decode cJ1_charAt_3b067 14 = .ok (.ireturn, 1) := by decide +kernel
theorem dJ1_canEncode_9a6ad_0 : decode cJ1_canEncode_9a6ad 0 = .ok (.iload_n 0, 1) := by decide +kernel
theorem dJ1_canEncode_9a6ad_1 : decode cJ1_canEncode_9a6ad 1 = .ok (.ifCond .lt 14, 3) := by decide +kernel
theorem dJ1_canEncode_9a6ad_4 : decode cJ1_canEncode_9a6ad 4 = .ok (.iload_n 0, 1) := by decide +kernel
theorem dJ1_canEncode_9a6ad_5 : decode cJ1_canEncode_9a6ad 5 = .ok (.sipush 255, 3) := by decide +kernel
theorem dJ1_canEncode_9a6ad_8 : decode cJ1_canEncode_9a6ad 8 = .ok (.if_icmp .gt 7, 3) := by decide +kernel
theorem dJ1_canEncode_9a6ad_11 : decode cJ1_canEncode_9a6ad 11 = .ok (.iconst 1, 1) := by decide +kernel
theorem dJ1_canEncode_9a6ad_12 : decode cJ1_canEncode_9a6ad 12 = .ok (.goto 4, 3) := by decide +kernel
theorem dJ1_canEncode_9a6ad_15 : decode cJ1_canEncode_9a6ad 15 = .ok (.iconst 0, 1) := by decide +kernel
theorem dJ1_canEncode_9a6ad_16 : decode cJ1_canEncode_9a6ad 16 = .ok (.ireturn, 1) := by decide +kernel
theorem dJ1_indexOf_4cfef_0 : decode cJ1_indexOf_4cfef 0 = .ok (.iload_n 1, 1) := by decide +kernel
theorem dJ1_indexOf_4cfef_1 : decode cJ1_indexOf_4cfef 1 = .ok (.invokestatic 88, 3) := by decide +kernel
theorem dJ1_indexOf_4cfef_4 : decode cJ1_indexOf_4cfef 4 = .ok (.ifCond .ne 5, 3) := by decide +kernel
theorem dJ1_indexOf_4cfef_7 : decode cJ1_indexOf_4cfef 7 = .ok (.iconst (-1), 1) := by decide +kernel
theorem dJ1_indexOf_4cfef_8 : decode cJ1_indexOf_4cfef 8 = .ok (.ireturn, 1) := by decide +kernel
theorem dJ1_indexOf_4cfef_9 : decode cJ1_indexOf_4cfef 9 = .ok (.iload_n 2, 1) := by decide +kernel
theorem dJ1_indexOf_4cfef_10 : decode cJ1_indexOf_4cfef 10 = .ok (.iconst 0, 1) := by decide +kernel
theorem dJ1_indexOf_4cfef_11 : decode cJ1_indexOf_4cfef 11 = .ok (.invokestatic 92, 3) := by decide +kernel
theorem dJ1_indexOf_4cfef_14 : decode cJ1_indexOf_4cfef 14 = .ok (.istore_n 2, 1) := by decide +kernel
theorem dJ1_indexOf_4cfef_15 : decode cJ1_indexOf_4cfef 15 = .ok (.iload_n 3, 1) := by decide +kernel
theorem dJ1_indexOf_4cfef_16 : decode cJ1_indexOf_4cfef 16 = .ok (.aload_n 0, 1) := by decide +kernel
theorem dJ1_indexOf_4cfef_17 : decode cJ1_indexOf_4cfef 17 = .ok (.arraylength, 1) := by decide +kernel
theorem dJ1_indexOf_4cfef_18 : decode cJ1_indexOf_4cfef 18 = .ok (.invokestatic 38, 3) := by decide +kernel
theorem dJ1_indexOf_4cfef_21 : decode cJ1_indexOf_4cfef 21 = .ok (.istore_n 3, 1) := by decide +kernel
theorem dJ1_indexOf_4cfef_22 : decode cJ1_indexOf_4cfef 22 = .ok (.iload_n 2, 1) := by decide +kernel
theorem dJ1_indexOf_4cfef_23 : decode cJ1_indexOf_4cfef 23 = .ok (.iload_n 3, 1) := by decide +kernel
theorem dJ1_indexOf_4cfef_24 : decode cJ1_indexOf_4cfef 24 = .ok (.if_icmp .lt 5, 3) := by decide +kernel
theorem dJ1_indexOf_4cfef_27 : decode cJ1_indexOf_4cfef 27 = .ok (.iconst (-1), 1) := by decide +kernel
theorem dJ1_indexOf_4cfef_28 : decode cJ1_indexOf_4cfef 28 = .ok (.ireturn, 1) := by decide +kernel
theorem dJ1_indexOf_4cfef_29 : decode cJ1_indexOf_4cfef 29 = .ok (.aload_n 0, 1) := by decide +kernel
theorem dJ1_indexOf_4cfef_30 : decode cJ1_indexOf_4cfef 30 = .ok (.iload_n 1, 1) := by decide +kernel
theorem dJ1_indexOf_4cfef_31 : decode cJ1_indexOf_4cfef 31 = .ok (.iload_n 2, 1) := by decide +kernel
theorem dJ1_indexOf_4cfef_32 : decode cJ1_indexOf_4cfef 32 = .ok (.iload_n 3, 1) := by decide +kernel
theorem dJ1_indexOf_4cfef_33 : decode cJ1_indexOf_4cfef 33 = .ok (.invokestatic 95, 3) := by decide +kernel
theorem dJ1_indexOf_4cfef_36 : decode cJ1_indexOf_4cfef 36 = .ok (.ireturn, 1) := by decide +kernel
theorem dJ1_indexOfChar_4cfef_0 : decode cJ1_indexOfChar_4cfef 0 = .ok (.iload_n 1, 1) := by decide +kernel
theorem dJ1_indexOfChar_4cfef_1 : decode cJ1_indexOfChar_4cfef 1 = .ok (.i2b, 1) := by decide +kernel
theorem dJ1_indexOfChar_4cfef_2 : decode cJ1_indexOfChar_4cfef 2 = .ok (.istore 4, 2) := by decide +kernel
theorem dJ1_indexOfChar_4cfef_4 : decode cJ1_indexOfChar_4cfef 4 = .ok (.iload_n 2, 1) := by decide +kernel
theorem dJ1_indexOfChar_4cfef_5 : decode cJ1_indexOfChar_4cfef 5 = .ok (.istore 5, 2) := by decide +kernel
theorem dJ1_indexOfChar_4cfef_7 : decode cJ1_indexOfChar_4cfef 7 = .ok (.iload 5, 2) := by decide +kernel
theorem dJ1_indexOfChar_4cfef_9 : decode cJ1_indexOfChar_4cfef 9 = .ok (.iload_n 3, 1) := by decide +kernel
theorem dJ1_indexOfChar_4cfef_10 : decode cJ1_indexOfChar_4cfef 10 = .ok (.if_icmp .ge 21, 3) := by decide +kernel
theorem dJ1_indexOfChar_4cfef_13 : decode cJ1_indexOfChar_4cfef 13 = .ok (.aload_n 0, 1) := by decide +kernel
theorem dJ1_indexOfChar_4cfef_14 : decode cJ1_indexOfChar_4cfef 14 = .ok (.iload 5, 2) := by decide +kernel
theorem dJ1_indexOfChar_4cfef_16 : decode cJ1_indexOfChar_4cfef 16 = .ok (.baload, 1) := by decide +kernel
theorem dJ1_indexOfChar_4cfef_17 : decode cJ1_indexOfChar_4cfef 17 = .ok (.iload 4, 2) := by decide +kernel
theorem dJ1_indexOfChar_4cfef_19 : decode cJ1_indexOfChar_4cfef 19 = .ok (.if_icmp .ne 6, 3) := by decide +kernel
theorem dJ1_indexOfChar_4cfef_22 : decode cJ1_indexOfChar_4cfef 22 = .ok (.iload 5, 2) := by decide +kernel
theorem dJ1_indexOfChar_4cfef_24 : decode cJ1_indexOfChar_4cfef 24 = .ok (.ireturn, 1) := by decide +kernel
theorem dJ1_indexOfChar_4cfef_25 : decode cJ1_indexOfChar_4cfef 25 = .ok (.iinc 5 1, 3) := by decide +kernel
theorem dJ1_indexOfChar_4cfef_28 : decode cJ1_indexOfChar_4cfef 28 = .ok (.goto (-21), 3) := by decide +kernel
theorem dJ1_indexOfChar_4cfef_31 : decode cJ1_indexOfChar_4cfef 31 = .ok (.iconst (-1), 1) := by decide +kernel
theorem dJ1_indexOfChar_4cfef_32 : decode cJ1_indexOfChar_4cfef 32 = .ok (.ireturn, 1) := by decide +kernel
theorem dJ2_getChar_3b067_0 : decode cJ2_getChar_3b067 0 = .ok (.getstatic 44, 3) := by decide +kernel
theorem dJ2_getChar_3b067_3 : decode cJ2_getChar_3b067 3 = .ok (.ifCond .ne 25, 3) := by decide +kernel
theorem dJ2_getChar_3b067_6 : decode cJ2_getChar_3b067 6 = .ok (.iload_n 1, 1) := by decide +kernel
theorem dJ2_getChar_3b067_7 : decode cJ2_getChar_3b067 7 = .ok (.ifCond .lt 11, 3) := by decide +kernel
theorem dJ2_getChar_3b067_10 : decode cJ2_getChar_3b067 10 = .ok (.iload_n 1, 1) := by decide +kernel
theorem dJ2_getChar_3b067_11 : decode cJ2_getChar_3b067 11 = .ok (.aload_n 0, 1) := by decide +kernel
theorem dJ2_getChar_3b067_12 : decode cJ2_getChar_3b067 12 = .ok (.invokestatic 48, 3) := by decide +kernel
theorem dJ2_getChar_3b067_15 : decode cJ2_getChar_3b067 15 = .ok (.if_icmp .lt 13, 3) := by decide +kernel
theorem dJ2_getChar_3b067_18 : decode cJ2_getChar_3b067 18 = .ok (.new 52, 3) := by decide +kernel
theorem dJ2_getChar_3b067_21 : decode cJ2_getChar_3b067 21 = .ok (.dup, 1) := by decide +kernel
theorem dJ2_getChar_3b067_22 : decode cJ2_getChar_3b067 22 = .ok (.ldc 54, 2) := by decide +kernel
theorem dJ2_getChar_3b067_24 : decode cJ2_getChar_3b067 24 = .ok (.invokespecial 56, 3) := by decide +kernel
theorem dJ2_getChar_3b067_27 : decode cJ2_getChar_3b067 27 = .ok (.athrow, 1) := by decide +kernel
theorem dJ2_getChar_3b067_28 : decode cJ2_getChar_3b067 28 = .ok (.iload_n 1, 1) := by decide +kernel
theorem dJ2_getChar_3b067_29 : decode cJ2_getChar_3b067 29 = .ok (.iconst 1, 1) := by decide +kernel
theorem dJ2_getChar_3b067_30 : decode cJ2_getChar_3b067 30 = .ok (.ishl, 1) := by decide +kernel
theorem dJ2_getChar_3b067_31 : decode cJ2_getChar_3b067 31 = .ok (.istore_n 1, 1) := by decide +kernel
theorem dJ2_getChar_3b067_32 : decode cJ2_getChar_3b067 32 = .ok (.aload_n 0, 1) := by decide +kernel
theorem dJ2_getChar_3b067_33 : decode cJ2_getChar_3b067 33 = .ok (.iload_n 1, 1) := by decide +kernel
theorem dJ2_getChar_3b067_34 : decode cJ2_getChar_3b067 34 = .ok (.iinc 1 1, 3) := by decide +kernel
theorem dJ2_getChar_3b067_37 : decode cJ2_getChar_3b067 37 = .ok (.baload, 1) := by decide +kernel
theorem dJ2_getChar_3b067_38 : decode cJ2_getChar_3b067 38 = .ok (.sipush 255, 3) := by decide +kernel
theorem dJ2_getChar_3b067_41 : decode cJ2_getChar_3b067 41 = .ok (.iand, 1) := by decide +kernel
theorem dJ2_getChar_3b067_42 : decode cJ2_getChar_3b067 42 = .ok (.getstatic 59, 3) := by decide +kernel
theorem dJ2_getChar_3b067_45 : decode cJ2_getChar_3b067 45 = .ok (.ishl, 1) := by decide +kernel
theorem dJ2_getChar_3b067_46 : decode cJ2_getChar_3b067 46 = .ok (.aload_n 0, 1) := by decide +kernel
theorem dJ2_getChar_3b067_47 : decode cJ2_getChar_3b067 47 = .ok (.iload_n 1, 1) := by decide +kernel
theorem dJ2_getChar_3b067_48 : decode cJ2_getChar_3b067 48 = .ok (.baload, 1) := by decide +kernel
theorem dJ2_getChar_3b067_49 : decode cJ2_getChar_3b067 49 = .ok (.sipush 255, 3) := by decide +kernel
theorem dJ2_getChar_3b067_52 : decode cJ2_getChar_3b067 52 = .ok (.iand, 1) := by decide +kernel
theorem dJ2_getChar_3b067_53 : decode cJ2_getChar_3b067 53 = .ok (.getstatic 63, 3) := by decide +kernel
theorem dJ2_getChar_3b067_56 : decode cJ2_getChar_3b067 56 = .ok (.ishl, 1) := by decide +kernel
theorem dJ2_getChar_3b067_57 : decode cJ2_getChar_3b067 57 = .ok (.ior, 1) := by decide +kernel
theorem dJ2_getChar_3b067_58 : decode cJ2_getChar_3b067 58 = .ok (.i2c, 1) := by decide +kernel
theorem dJ2_getChar_3b067_59 : decode cJ2_getChar_3b067 59 = .ok (.ireturn, 1) := by decide +kernel
theorem dJ2_length_9d52b_0 : decode cJ2_length_9d52b 0 = .ok (.aload_n 0, 1) := by decide +kernel
theorem dJ2_length_9d52b_1 : decode cJ2_length_9d52b 1 = .ok (.arraylength, 1) := by decide +kernel
theorem dJ2_length_9d52b_2 : decode cJ2_length_9d52b 2 = .ok (.iconst 1, 1) := by decide +kernel
theorem dJ2_length_9d52b_3 : decode cJ2_length_9d52b 3 = .ok (.ishr, 1) := by decide +kernel
theorem dJ2_length_9d52b_4 : decode cJ2_length_9d52b 4 = .ok (.ireturn, 1) := by decide +kernel
theorem dJ2_indexOf_4cfef_0 : decode cJ2_indexOf_4cfef 0 = .ok (.iload_n 2, 1) := by decide +kernel
theorem dJ2_indexOf_4cfef_1 : decode cJ2_indexOf_4cfef 1 = .ok (.iconst 0, 1) := by decide +kernel
theorem dJ2_indexOf_4cfef_2 : decode cJ2_indexOf_4cfef 2 = .ok (.invokestatic 224, 3) := by decide +kernel
theorem dJ2_indexOf_4cfef_5 : decode cJ2_indexOf_4cfef 5 = .ok (.istore_n 2, 1) := by decide +kernel
theorem dJ2_indexOf_4cfef_6 : decode cJ2_indexOf_4cfef 6 = .ok (.iload_n 3, 1) := by decide +kernel
theorem dJ2_indexOf_4cfef_7 : decode cJ2_indexOf_4cfef 7 = .ok (.aload_n 0, 1) := by decide +kernel
theorem dJ2_indexOf_4cfef_8 : decode cJ2_indexOf_4cfef 8 = .ok (.arraylength, 1) := by decide +kernel
theorem dJ2_indexOf_4cfef_9 : decode cJ2_indexOf_4cfef 9 = .ok (.iconst 1, 1) := by decide +kernel
theorem dJ2_indexOf_4cfef_10 : decode cJ2_indexOf_4cfef 10 = .ok (.ishr, 1) := by decide +kernel
theorem dJ2_indexOf_4cfef_11 : decode cJ2_indexOf_4cfef 11 = .ok (.invokestatic 183, 3) := by decide +kernel
theorem dJ2_indexOf_4cfef_14 : decode cJ2_indexOf_4cfef 14 = .ok (.istore_n 3, 1) := by decide +kernel
theorem dJ2_indexOf_4cfef_15 : decode cJ2_indexOf_4cfef 15 = .ok (.iload_n 2, 1) := by decide +kernel
theorem dJ2_indexOf_4cfef_16 : decode cJ2_indexOf_4cfef 16 = .ok (.iload_n 3, 1) := by decide +kernel
theorem dJ2_indexOf_4cfef_17 : decode cJ2_indexOf_4cfef 17 = .ok (.if_icmp .lt 5, 3) := by decide +kernel
theorem dJ2_indexOf_4cfef_20 : decode cJ2_indexOf_4cfef 20 = .ok (.iconst (-1), 1) := by decide +kernel
theorem dJ2_indexOf_4cfef_21 : decode cJ2_indexOf_4cfef 21 = .ok (.ireturn, 1) := by decide +kernel
theorem dJ2_indexOf_4cfef_22 : decode cJ2_indexOf_4cfef 22 = .ok (.iload_n 1, 1) := by decide +kernel
theorem dJ2_indexOf_4cfef_23 : decode cJ2_indexOf_4cfef 23 = .ok (.ldc 227, 2) := by decide +kernel
theorem dJ2_indexOf_4cfef_25 : decode cJ2_indexOf_4cfef 25 = .ok (.if_icmp .ge 11, 3) := by decide +kernel
theorem dJ2_indexOf_4cfef_28 : decode cJ2_indexOf_4cfef 28 = .ok (.aload_n 0, 1) := by decide +kernel
theorem dJ2_indexOf_4cfef_29 : decode cJ2_indexOf_4cfef 29 = .ok (.iload_n 1, 1) := by decide +kernel
theorem dJ2_indexOf_4cfef_30 : decode cJ2_indexOf_4cfef 30 = .ok (.iload_n 2, 1) := by decide +kernel
theorem dJ2_indexOf_4cfef_31 : decode cJ2_indexOf_4cfef 31 = .ok (.iload_n 3, 1) := by decide +kernel
theorem dJ2_indexOf_4cfef_32 : decode cJ2_indexOf_4cfef 32 = .ok (.invokestatic 228, 3) := by decide +kernel
theorem dJ2_indexOf_4cfef_35 : decode cJ2_indexOf_4cfef 35 = .ok (.ireturn, 1) := by decide +kernel
theorem dJ2_indexOf_4cfef_36 : decode cJ2_indexOf_4cfef 36 = .ok (.aload_n 0, 1) := by decide +kernel
theorem dJ2_indexOf_4cfef_37 : decode cJ2_indexOf_4cfef 37 = .ok (.iload_n 1, 1) := by decide +kernel
theorem dJ2_indexOf_4cfef_38 : decode cJ2_indexOf_4cfef 38 = .ok (.iload_n 2, 1) := by decide +kernel
theorem dJ2_indexOf_4cfef_39 : decode cJ2_indexOf_4cfef 39 = .ok (.iload_n 3, 1) := by decide +kernel
theorem dJ2_indexOf_4cfef_40 : decode cJ2_indexOf_4cfef 40 = .ok (.invokestatic 232, 3) := by decide +kernel
theorem dJ2_indexOf_4cfef_43 : decode cJ2_indexOf_4cfef 43 = .ok (.ireturn, 1) := by decide +kernel
theorem dJ2_indexOfChar_4cfef_0 : decode cJ2_indexOfChar_4cfef 0 = .ok (.iload_n 2, 1) := by decide +kernel
theorem dJ2_indexOfChar_4cfef_1 : decode cJ2_indexOfChar_4cfef 1 = .ok (.iload_n 3, 1) := by decide +kernel
theorem dJ2_indexOfChar_4cfef_2 : decode cJ2_indexOfChar_4cfef 2 = .ok (.aload_n 0, 1) := by decide +kernel
theorem dJ2_indexOfChar_4cfef_3 : decode cJ2_indexOfChar_4cfef 3 = .ok (.invokestatic 96, 3) := by decide +kernel
theorem dJ2_indexOfChar_4cfef_6 : decode cJ2_indexOfChar_4cfef 6 = .ok (.aload_n 0, 1) := by decide +kernel
theorem dJ2_indexOfChar_4cfef_7 : decode cJ2_indexOfChar_4cfef 7 = .ok (.iload_n 1, 1) := by decide +kernel
theorem dJ2_indexOfChar_4cfef_8 : decode cJ2_indexOfChar_4cfef 8 = .ok (.iload_n 2, 1) := by decide +kernel
theorem dJ2_indexOfChar_4cfef_9 : decode cJ2_indexOfChar_4cfef 9 = .ok (.iload_n 3, 1) := by decide +kernel
theorem dJ2_indexOfChar_4cfef_10 : decode cJ2_indexOfChar_4cfef 10 = .ok (.invokestatic 244, 3) := by decide +kernel
theorem dJ2_indexOfChar_4cfef_13 : decode cJ2_indexOfChar_4cfef 13 = .ok (.ireturn, 1) := by decide +kernel
theorem dJ2_indexOfCharUnsafe_4cfef_0 : decode cJ2_indexOfCharUnsafe_4cfef 0 = .ok (.iload_n 2, 1) := by decide +kernel
theorem dJ2_indexOfCharUnsafe_4cfef_1 : decode cJ2_indexOfCharUnsafe_4cfef 1 = .ok (.istore 4, 2) := by decide +kernel
theorem dJ2_indexOfCharUnsafe_4cfef_3 : decode cJ2_indexOfCharUnsafe_4cfef 3 = .ok (.iload 4, 2) := by decide +kernel
theorem dJ2_indexOfCharUnsafe_4cfef_5 : decode cJ2_indexOfCharUnsafe_4cfef 5 = .ok (.iload_n 3, 1) := by decide +kernel
theorem dJ2_indexOfCharUnsafe_4cfef_6 : decode cJ2_indexOfCharUnsafe_4cfef 6 = .ok (.if_icmp .ge 22, 3) := by decide +kernel
theorem dJ2_indexOfCharUnsafe_4cfef_9 : decode cJ2_indexOfCharUnsafe_4cfef 9 = .ok (.aload_n 0, 1) := by decide +kernel
theorem dJ2_indexOfCharUnsafe_4cfef_10 : decode cJ2_indexOfCharUnsafe_4cfef 10 = .ok (.iload 4, 2) := by decide +kernel
theorem dJ2_indexOfCharUnsafe_4cfef_12 : decode cJ2_indexOfCharUnsafe_4cfef 12 = .ok (.invokestatic 71, 3) := by decide +kernel
theorem dJ2_indexOfCharUnsafe_4cfef_15 : decode cJ2_indexOfCharUnsafe_4cfef 15 = .ok (.iload_n 1, 1) := by decide +kernel
theorem dJ2_indexOfCharUnsafe_4cfef_16 : decode cJ2_indexOfCharUnsafe_4cfef 16 = .ok (.if_icmp .ne 6, 3) := by decide +kernel
theorem dJ2_indexOfCharUnsafe_4cfef_19 : decode cJ2_indexOfCharUnsafe_4cfef 19 = .ok (.iload 4, 2) := by decide +kernel
theorem dJ2_indexOfCharUnsafe_4cfef_21 : decode cJ2_indexOfCharUnsafe_4cfef 21 = .ok (.ireturn, 1) := by decide +kernel
theorem dJ2_indexOfCharUnsafe_4cfef_22 : decode cJ2_indexOfCharUnsafe_4cfef 22 = .ok (.iinc 4 1, 3) := by decide +kernel
theorem dJ2_indexOfCharUnsafe_4cfef_25 : decode cJ2_indexOfCharUnsafe_4cfef 25 = .ok (.goto (-22), 3) := by decide +kernel
theorem dJ2_indexOfCharUnsafe_4cfef_28 : decode cJ2_indexOfCharUnsafe_4cfef 28 = .ok (.iconst (-1), 1) := by decide +kernel
theorem dJ2_indexOfCharUnsafe_4cfef_29 : decode cJ2_indexOfCharUnsafe_4cfef 29 = .ok (.ireturn, 1) := by decide +kernel
theorem dJ2_indexOfSupplementary_4cfef_0 : decode cJ2_indexOfSupplementary_4cfef 0 = .ok (.iload_n 1, 1) := by decide +kernel
theorem dJ2_indexOfSupplementary_4cfef_1 : decode cJ2_indexOfSupplementary_4cfef 1 = .ok (.invokestatic 164, 3) := by decide +kernel
theorem dJ2_indexOfSupplementary_4cfef_4 : decode cJ2_indexOfSupplementary_4cfef 4 = .ok (.ifCond .eq 65, 3) := by decide +kernel
theorem dJ2_indexOfSupplementary_4cfef_7 : decode cJ2_indexOfSupplementary_4cfef 7 = .ok (.iload_n 1, 1) := by decide +kernel
theorem dJ2_indexOfSupplementary_4cfef_8 : decode cJ2_indexOfSupplementary_4cfef 8 = .ok (.invokestatic 157, 3) := by decide +kernel
theorem dJ2_indexOfSupplementary_4cfef_11 : decode cJ2_indexOfSupplementary_4cfef 11 = .ok (.istore 4, 2) := by decide +kernel
theorem dJ2_indexOfSupplementary_4cfef_13 : decode cJ2_indexOfSupplementary_4cfef 13 = .ok (.iload_n 1, 1) := by decide +kernel
theorem dJ2_indexOfSupplementary_4cfef_14 : decode cJ2_indexOfSupplementary_4cfef 14 = .ok (.invokestatic 161, 3) := by decide +kernel
theorem dJ2_indexOfSupplementary_4cfef_17 : decode cJ2_indexOfSupplementary_4cfef 17 = .ok (.istore 5, 2) := by decide +kernel
theorem dJ2_indexOfSupplementary_4cfef_19 : decode cJ2_indexOfSupplementary_4cfef 19 = .ok (.iload_n 2, 1) := by decide +kernel
theorem dJ2_indexOfSupplementary_4cfef_20 : decode cJ2_indexOfSupplementary_4cfef 20 = .ok (.iload_n 3, 1) := by decide +kernel
theorem dJ2_indexOfSupplementary_4cfef_21 : decode cJ2_indexOfSupplementary_4cfef 21 = .ok (.aload_n 0, 1) := by decide +kernel
theorem dJ2_indexOfSupplementary_4cfef_22 : decode cJ2_indexOfSupplementary_4cfef 22 = .ok (.invokestatic 96, 3) := by decide +kernel
theorem dJ2_indexOfSupplementary_4cfef_25 : decode cJ2_indexOfSupplementary_4cfef 25 = .ok (.iload_n 2, 1) := by decide +kernel
theorem dJ2_indexOfSupplementary_4cfef_26 : decode cJ2_indexOfSupplementary_4cfef 26 = .ok (.istore 6, 2) := by decide +kernel
theorem dJ2_indexOfSupplementary_4cfef_28 : decode cJ2_indexOfSupplementary_4cfef 28 = .ok (.iload 6, 2) := by decide +kernel
theorem dJ2_indexOfSupplementary_4cfef_30 : decode cJ2_indexOfSupplementary_4cfef 30 = .ok (.iload_n 3, 1) := by decide +kernel
theorem dJ2_indexOfSupplementary_4cfef_31 : decode cJ2_indexOfSupplementary_4cfef 31 = .ok (.iconst 1, 1) := by decide +kernel
theorem dJ2_indexOfSupplementary_4cfef_32 : decode cJ2_indexOfSupplementary_4cfef 32 = .ok (.isub, 1) := by decide +kernel
theorem dJ2_indexOfSupplementary_4cfef_33 : decode cJ2_indexOfSupplementary_4cfef 33 = .ok (.if_icmp .ge 36, 3) := by decide +kernel
theorem dJ2_indexOfSupplementary_4cfef_36 : decode cJ2_indexOfSupplementary_4cfef 36 = .ok (.aload_n 0, 1) := by decide +kernel
theorem dJ2_indexOfSupplementary_4cfef_37 : decode cJ2_indexOfSupplementary_4cfef 37 = .ok (.iload 6, 2) := by decide +kernel
theorem dJ2_indexOfSupplementary_4cfef_39 : decode cJ2_indexOfSupplementary_4cfef 39 = .ok (.invokestatic 71, 3) := by decide +kernel
theorem dJ2_indexOfSupplementary_4cfef_42 : decode cJ2_indexOfSupplementary_4cfef 42 = .ok (.iload 4, 2) := by decide +kernel
theorem dJ2_indexOfSupplementary_4cfef_44 : decode cJ2_indexOfSupplementary_4cfef 44 = .ok (.if_icmp .ne 19, 3) := by decide +kernel
theorem dJ2_indexOfSupplementary_4cfef_47 : decode cJ2_indexOfSupplementary_4cfef 47 = .ok (.aload_n 0, 1) := by decide +kernel
theorem dJ2_indexOfSupplementary_4cfef_48 : decode cJ2_indexOfSupplementary_4cfef 48 = .ok (.iload 6, 2) := by decide +kernel
theorem dJ2_indexOfSupplementary_4cfef_50 : decode cJ2_indexOfSupplementary_4cfef 50 = .ok (.iconst 1, 1) := by decide +kernel
theorem dJ2_indexOfSupplementary_4cfef_51 : decode cJ2_indexOfSupplementary_4cfef 51 = .ok (.iadd, 1) := by decide +kernel
theorem dJ2_indexOfSupplementary_4cfef_52 : decode cJ2_indexOfSupplementary_4cfef 52 = .ok (.invokestatic 71, 3) := by decide +kernel
theorem dJ2_indexOfSupplementary_4cfef_55 : decode cJ2_indexOfSupplementary_4cfef 55 = .ok (.iload 5, 2) := by decide +kernel
theorem dJ2_indexOfSupplementary_4cfef_57 : decode cJ2_indexOfSupplementary_4cfef 57 = .ok (.if_icmp .ne 6, 3) := by decide +kernel
theorem dJ2_indexOfSupplementary_4cfef_60 : decode cJ2_indexOfSupplementary_4cfef 60 = .ok (.iload 6, 2) := by decide +kernel
theorem dJ2_indexOfSupplementary_4cfef_62 : decode cJ2_indexOfSupplementary_4cfef 62 = .ok (.ireturn, 1) := by decide +kernel
theorem dJ2_indexOfSupplementary_4cfef_63 : decode cJ2_indexOfSupplementary_4cfef 63 = .ok (.iinc 6 1, 3) := by decide +kernel
theorem dJ2_indexOfSupplementary_4cfef_66 : decode cJ2_indexOfSupplementary_4cfef 66 = .ok (.goto (-38), 3) := by decide +kernel
theorem dJ2_indexOfSupplementary_4cfef_69 : decode cJ2_indexOfSupplementary_4cfef 69 = .ok (.iconst (-1), 1) := by decide +kernel
theorem dJ2_indexOfSupplementary_4cfef_70 : decode cJ2_indexOfSupplementary_4cfef 70 = .ok (.ireturn, 1) := by decide +kernel
theorem dJ2_charAt_3b067_0 : decode cJ2_charAt_3b067 0 = .ok (.iload_n 1, 1) := by decide +kernel
theorem dJ2_charAt_3b067_1 : decode cJ2_charAt_3b067 1 = .ok (.aload_n 0, 1) := by decide +kernel
theorem dJ2_charAt_3b067_2 : decode cJ2_charAt_3b067 2 = .ok (.invokestatic 67, 3) := by decide +kernel
theorem dJ2_charAt_3b067_5 : decode cJ2_charAt_3b067 5 = .ok (.aload_n 0, 1) := by decide +kernel
theorem dJ2_charAt_3b067_6 : decode cJ2_charAt_3b067 6 = .ok (.iload_n 1, 1) := by decide +kernel
theorem dJ2_charAt_3b067_7 : decode cJ2_charAt_3b067 7 = .ok (.invokestatic 71, 3) := by decide +kernel
theorem dJ2_charAt_3b067_10 : decode cJ2_charAt_3b067 10 = .ok (.ireturn, 1) := by decide +kernel
theorem dJ2_checkIndex_2214a_0 : decode cJ2_checkIndex_2214a 0 = .ok (.iload_n 0, 1) := by decide +kernel
theorem dJ2_checkIndex_2214a_1 : decode cJ2_checkIndex_2214a 1 = .ok (.aload_n 1, 1) := by decide +kernel
theorem dJ2_checkIndex_2214a_2 : decode cJ2_checkIndex_2214a 2 = .ok (.invokestatic 48, 3) := by decide +kernel
theorem dJ2_checkIndex_2214a_5 : decode cJ2_checkIndex_2214a 5 = .ok (.invokestatic 414, 3) := by decide +kernel
theorem dJ2_checkIndex_2214a_8 : decode cJ2_checkIndex_2214a 8 = .ok (.return_, 1) := by decide +kernel
theorem dJ2_checkBoundsBeginEnd_d044e_0 : decode cJ2_checkBoundsBeginEnd_d044e 0 = .ok (.iload_n 0, 1) := by decide +kernel
theorem dJ2_checkBoundsBeginEnd_d044e_1 : decode cJ2_checkBoundsBeginEnd_d044e 1 = .ok (.iload_n 1, 1) := by decide +kernel
theorem dJ2_checkBoundsBeginEnd_d044e_2 : decode cJ2_checkBoundsBeginEnd_d044e 2 = .ok (.aload_n 2, 1) := by decide +kernel
theorem dJ2_checkBoundsBeginEnd_d044e_3 : decode cJ2_checkBoundsBeginEnd_d044e 3 = .ok (.invokestatic 48, 3) := by decide +kernel
theorem dJ2_checkBoundsBeginEnd_d044e_6 : decode cJ2_checkBoundsBeginEnd_d044e 6 = .ok (.invokestatic 241, 3) := by decide +kernel
theorem dJ2_checkBoundsBeginEnd_d044e_9 : decode cJ2_checkBoundsBeginEnd_d044e 9 = .ok (.return_, 1) := by decide +kernel
theorem dJ7_fill_53178_0 : decode cJ7_fill_53178 0 = .ok (.iconst 0, 1) := by decide +kernel
theorem dJ7_fill_53178_1 : decode cJ7_fill_53178 1 = .ok (.istore_n 2, 1) := by decide +kernel
theorem dJ7_fill_53178_2 : decode cJ7_fill_53178 2 = .ok (.aload_n 0, 1) := by decide +kernel
theorem dJ7_fill_53178_3 : decode cJ7_fill_53178 3 = .ok (.arraylength, 1) := by decide +kernel
theorem dJ7_fill_53178_4 : decode cJ7_fill_53178 4 = .ok (.istore_n 3, 1) := by decide +kernel
theorem dJ7_fill_53178_5 : decode cJ7_fill_53178 5 = .ok (.iload_n 2, 1) := by decide +kernel
theorem dJ7_fill_53178_6 : decode cJ7_fill_53178 6 = .ok (.iload_n 3, 1) := by decide +kernel
theorem dJ7_fill_53178_7 : decode cJ7_fill_53178 7 = .ok (.if_icmp .ge 13, 3) := by decide +kernel
theorem dJ7_fill_53178_10 : decode cJ7_fill_53178 10 = .ok (.aload_n 0, 1) := by decide +kernel
theorem dJ7_fill_53178_11 : decode cJ7_fill_53178 11 = .ok (.iload_n 2, 1) := by decide +kernel
theorem dJ7_fill_53178_12 : decode cJ7_fill_53178 12 = .ok (.iload_n 1, 1) := by decide +kernel
theorem dJ7_fill_53178_13 : decode cJ7_fill_53178 13 = .ok (.iastore, 1) := by decide +kernel
theorem dJ7_fill_53178_14 : decode cJ7_fill_53178 14 = .ok (.iinc 2 1, 3) := by decide +kernel
theorem dJ7_fill_53178_17 : decode cJ7_fill_53178 17 = .ok (.goto (-12), 3) := by decide +kernel
theorem dJ7_fill_53178_20 : decode cJ7_fill_53178 20 = .ok (.return_, 1) := by decide +kernel
theorem dJ7_copyOf_59c91_0 : decode cJ7_copyOf_59c91 0 = .ok (.iload_n 1, 1) := by decide +kernel
theorem dJ7_copyOf_59c91_1 : decode cJ7_copyOf_59c91 1 = .ok (.aload_n 0, 1) := by decide +kernel
theorem dJ7_copyOf_59c91_2 : decode cJ7_copyOf_59c91 2 = .ok (.arraylength, 1) := by decide +kernel
theorem dJ7_copyOf_59c91_3 : decode cJ7_copyOf_59c91 3 = .ok (.if_icmp .ne 11, 3) := by decide +kernel
theorem dJ7_copyOf_59c91_6 : decode cJ7_copyOf_59c91 6 = .ok (.aload_n 0, 1) := by decide +kernel
theorem dJ7_copyOf_59c91_7 : decode cJ7_copyOf_59c91 7 = .ok (.invokevirtual 316, 3) := by decide +kernel
theorem dJ7_copyOf_59c91_10 : decode cJ7_copyOf_59c91 10 = .ok (.checkcast 317, 3) := by decide +kernel
theorem dJ7_copyOf_59c91_13 : decode cJ7_copyOf_59c91 13 = .ok (.areturn, 1) := by decide +kernel
theorem dJ7_copyOf_59c91_14 : decode cJ7_copyOf_59c91 14 = .ok (.iload_n 1, 1) := by decide +kernel
theorem dJ7_copyOf_59c91_15 : decode cJ7_copyOf_59c91 15 = .ok (.newarray .int, 2) := by decide +kernel
theorem dJ7_copyOf_59c91_17 : decode cJ7_copyOf_59c91 17 = .ok (.astore_n 2, 1) := by decide +kernel
theorem dJ7_copyOf_59c91_18 : decode cJ7_copyOf_59c91 18 = .ok (.aload_n 0, 1) := by decide +kernel
theorem dJ7_copyOf_59c91_19 : decode cJ7_copyOf_59c91 19 = .ok (.iconst 0, 1) := by decide +kernel
theorem dJ7_copyOf_59c91_20 : decode cJ7_copyOf_59c91 20 = .ok (.aload_n 2, 1) := by decide +kernel
theorem dJ7_copyOf_59c91_21 : decode cJ7_copyOf_59c91 21 = .ok (.iconst 0, 1) := by decide +kernel
theorem dJ7_copyOf_59c91_22 : decode cJ7_copyOf_59c91 22 = .ok (.aload_n 0, 1) := by decide +kernel
theorem dJ7_copyOf_59c91_23 : decode cJ7_copyOf_59c91 23 = .ok (.arraylength, 1) := by decide +kernel
theorem dJ7_copyOf_59c91_24 : decode cJ7_copyOf_59c91 24 = .ok (.iload_n 1, 1) := by decide +kernel
theorem dJ7_copyOf_59c91_25 : decode cJ7_copyOf_59c91 25 = .ok (.invokestatic 304, 3) := by decide +kernel
theorem dJ7_copyOf_59c91_28 : decode cJ7_copyOf_59c91 28 = .ok (.invokestatic 150, 3) := by decide +kernel
theorem dJ7_copyOf_59c91_31 : decode cJ7_copyOf_59c91 31 = .ok (.aload_n 2, 1) := by decide +kernel
theorem dJ7_copyOf_59c91_32 : decode cJ7_copyOf_59c91 32 = .ok (.areturn, 1) := by decide +kernel
theorem dJ3_checkIndex_8e157_0 : decode cJ3_checkIndex_8e157 0 = .ok (.iload_n 0, 1) := by decide +kernel
theorem dJ3_checkIndex_8e157_1 : decode cJ3_checkIndex_8e157 1 = .ok (.ifCond .lt 8, 3) := by decide +kernel
theorem dJ3_checkIndex_8e157_4 : decode cJ3_checkIndex_8e157 4 = .ok (.iload_n 0, 1) := by decide +kernel
theorem dJ3_checkIndex_8e157_5 : decode cJ3_checkIndex_8e157 5 = .ok (.iload_n 1, 1) := by decide +kernel
theorem dJ3_checkIndex_8e157_6 : decode cJ3_checkIndex_8e157 6 = .ok (.if_icmp .lt 10, 3) := by decide +kernel
theorem dJ3_checkIndex_8e157_9 : decode cJ3_checkIndex_8e157 9 = .ok (.aload_n 2, 1) := by decide +kernel
theorem dJ3_checkIndex_8e157_10 : decode cJ3_checkIndex_8e157 10 = .ok (.iload_n 0, 1) := by decide +kernel
theorem dJ3_checkIndex_8e157_11 : decode cJ3_checkIndex_8e157 11 = .ok (.iload_n 1, 1) := by decide +kernel
theorem dJ3_checkIndex_8e157_12 : decode cJ3_checkIndex_8e157 12 = .ok (.invokestatic 95, 3) := by decide +kernel
theorem dJ3_checkIndex_8e157_15 : decode cJ3_checkIndex_8e157 15 = .ok (.athrow, 1) := by decide +kernel
theorem dJ3_checkIndex_8e157_16 : decode cJ3_checkIndex_8e157 16 = .ok (.iload_n 0, 1) := by decide +kernel
theorem dJ3_checkIndex_8e157_17 : decode cJ3_checkIndex_8e157 17 = .ok (.ireturn, 1) := by decide +kernel
theorem dJ3_checkFromToIndex_8c36e_0 : decode cJ3_checkFromToIndex_8c36e 0 = .ok (.iload_n 0, 1) := by decide +kernel
theorem dJ3_checkFromToIndex_8c36e_1 : decode cJ3_checkFromToIndex_8c36e 1 = .ok (.ifCond .lt 13, 3) := by decide +kernel
theorem dJ3_checkFromToIndex_8c36e_4 : decode cJ3_checkFromToIndex_8c36e 4 = .ok (.iload_n 0, 1) := by decide +kernel
theorem dJ3_checkFromToIndex_8c36e_5 : decode cJ3_checkFromToIndex_8c36e 5 = .ok (.iload_n 1, 1) := by decide +kernel
theorem dJ3_checkFromToIndex_8c36e_6 : decode cJ3_checkFromToIndex_8c36e 6 = .ok (.if_icmp .gt 8, 3) := by decide +kernel
theorem dJ3_checkFromToIndex_8c36e_9 : decode cJ3_checkFromToIndex_8c36e 9 = .ok (.iload_n 1, 1) := by decide +kernel
theorem dJ3_checkFromToIndex_8c36e_10 : decode cJ3_checkFromToIndex_8c36e 10 = .ok (.iload_n 2, 1) := by decide +kernel
theorem dJ3_checkFromToIndex_8c36e_11 : decode cJ3_checkFromToIndex_8c36e 11 = .ok (.if_icmp .le 11, 3) := by decide +kernel
theorem dJ3_checkFromToIndex_8c36e_14 : decode cJ3_checkFromToIndex_8c36e 14 = .ok (.aload_n 3, 1) := by decide +kernel
theorem dJ3_checkFromToIndex_8c36e_15 : decode cJ3_checkFromToIndex_8c36e 15 = .ok (.iload_n 0, 1) := by decide +kernel
theorem dJ3_checkFromToIndex_8c36e_16 : decode cJ3_checkFromToIndex_8c36e 16 = .ok (.iload_n 1, 1) := by decide +kernel
theorem dJ3_checkFromToIndex_8c36e_17 : decode cJ3_checkFromToIndex_8c36e 17 = .ok (.iload_n 2, 1) := by decide +kernel
theorem dJ3_checkFromToIndex_8c36e_18 : decode cJ3_checkFromToIndex_8c36e 18 = .ok (.invokestatic 99, 3) := by decide +kernel
theorem dJ3_checkFromToIndex_8c36e_21 : decode cJ3_checkFromToIndex_8c36e 21 = .ok (.athrow, 1) := by decide +kernel
theorem dJ3_checkFromToIndex_8c36e_22 : decode cJ3_checkFromToIndex_8c36e 22 = .ok (.iload_n 0, 1) := by decide +kernel
theorem dJ3_checkFromToIndex_8c36e_23 : decode cJ3_checkFromToIndex_8c36e 23 = .ok (.ireturn, 1) := by decide +kernel
