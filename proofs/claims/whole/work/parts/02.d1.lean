theorem dX0_init_0 : decode cX0_init 0 = .ok (.aload_n 0, 1) := by decide +kernel
theorem dX0_init_1 : decode cX0_init 1 = .ok (.invokespecial 1, 3) := by decide +kernel
theorem dX0_init_4 : decode cX0_init 4 = .ok (.aload_n 0, 1) := by decide +kernel
theorem dX0_init_5 : decode cX0_init 5 = .ok (.new 7, 3) := by decide +kernel
theorem dX0_init_8 : decode cX0_init 8 = .ok (.dup, 1) := by decide +kernel
theorem dX0_init_9 : decode cX0_init 9 = .ok (.invokespecial 9, 3) := by decide +kernel
theorem dX0_init_12 : decode cX0_init 12 = .ok (.putfield 10, 3) := by decide +kernel
theorem dX0_init_15 : decode cX0_init 15 = .ok (.aload_n 0, 1) := by decide +kernel
theorem dX0_init_16 : decode cX0_init 16 = .ok (.new 7, 3) := by decide +kernel
theorem dX0_init_19 : decode cX0_init 19 = .ok (.dup, 1) := by decide +kernel
theorem dX0_init_20 : decode cX0_init 20 = .ok (.invokespecial 9, 3) := by decide +kernel
theorem dX0_init_23 : decode cX0_init 23 = .ok (.putfield 16, 3) := by decide +kernel
theorem dX0_init_26 : decode cX0_init 26 = .ok (.aload_n 0, 1) := by decide +kernel
theorem dX0_init_27 : decode cX0_init 27 = .ok (.new 19, 3) := by decide +kernel
theorem dX0_init_30 : decode cX0_init 30 = .ok (.dup, 1) := by decide +kernel
theorem dX0_init_31 : decode cX0_init 31 = .ok (.invokespecial 21, 3) := by decide +kernel
theorem dX0_init_34 : decode cX0_init 34 = .ok (.putfield 22, 3) := by decide +kernel
theorem dX0_init_37 : decode cX0_init 37 = .ok (.aload_n 0, 1) := by decide +kernel
theorem dX0_init_38 : decode cX0_init 38 = .ok (.new 19, 3) := by decide +kernel
theorem dX0_init_41 : decode cX0_init 41 = .ok (.dup, 1) := by decide +kernel
theorem dX0_init_42 : decode cX0_init 42 = .ok (.invokespecial 21, 3) := by decide +kernel
theorem dX0_init_45 : decode cX0_init 45 = .ok (.putfield 26, 3) := by decide +kernel
theorem dX0_init_48 : decode cX0_init 48 = .ok (.aload_n 0, 1) := by decide +kernel
theorem dX0_init_49 : decode cX0_init 49 = .ok (.aload_n 1, 1) := by decide +kernel
theorem dX0_init_50 : decode cX0_init 50 = .ok (.putfield 29, 3) := by decide +kernel
theorem dX0_init_53 : decode cX0_init 53 = .ok (.return_, 1) := by decide +kernel
theorem dX0_movesMade_0 : decode cX0_movesMade 0 = .ok (.aload_n 0, 1) := by decide +kernel
theorem dX0_movesMade_1 : decode cX0_movesMade 1 = .ok (.getfield 29, 3) := by decide +kernel
theorem dX0_movesMade_4 : decode cX0_movesMade 4 = .ok (.aload_n 1, 1) := by decide +kernel
theorem dX0_movesMade_5 : decode cX0_movesMade 5 = .ok (.aload_n 0, 1) := by decide +kernel
theorem dX0_movesMade_6 : decode cX0_movesMade 6 = .ok (.getfield 16, 3) := by decide +kernel
theorem dX0_movesMade_9 : decode cX0_movesMade 9 = .ok (.invokevirtual 33, 3) := by decide +kernel
theorem dX0_movesMade_12 : decode cX0_movesMade 12 = .ok (.aload_n 1, 1) := by decide +kernel
theorem dX0_movesMade_13 : decode cX0_movesMade 13 = .ok (.getfield 39, 3) := by decide +kernel
theorem dX0_movesMade_16 : decode cX0_movesMade 16 = .ok (.istore_n 2, 1) := by decide +kernel
theorem dX0_movesMade_17 : decode cX0_movesMade 17 = .ok (.iconst 0, 1) := by decide +kernel
theorem dX0_movesMade_18 : decode cX0_movesMade 18 = .ok (.istore_n 3, 1) := by decide +kernel
theorem dX0_movesMade_19 : decode cX0_movesMade 19 = .ok (.iconst 0, 1) := by decide +kernel
theorem dX0_movesMade_20 : decode cX0_movesMade 20 = .ok (.istore 4, 2) := by decide +kernel
theorem dX0_movesMade_22 : decode cX0_movesMade 22 = .ok (.iload 4, 2) := by decide +kernel
theorem dX0_movesMade_24 : decode cX0_movesMade 24 = .ok (.aload_n 0, 1) := by decide +kernel
theorem dX0_movesMade_25 : decode cX0_movesMade 25 = .ok (.getfield 16, 3) := by decide +kernel
theorem dX0_movesMade_28 : decode cX0_movesMade 28 = .ok (.getfield 43, 3) := by decide +kernel
theorem dX0_movesMade_31 : decode cX0_movesMade 31 = .ok (.if_icmp .ge 62, 3) := by decide +kernel
theorem dX0_movesMade_34 : decode cX0_movesMade 34 = .ok (.aload_n 0, 1) := by decide +kernel
theorem dX0_movesMade_35 : decode cX0_movesMade 35 = .ok (.getfield 29, 3) := by decide +kernel
theorem dX0_movesMade_38 : decode cX0_movesMade 38 = .ok (.aload_n 1, 1) := by decide +kernel
theorem dX0_movesMade_39 : decode cX0_movesMade 39 = .ok (.aload_n 0, 1) := by decide +kernel
theorem dX0_movesMade_40 : decode cX0_movesMade 40 = .ok (.getfield 16, 3) := by decide +kernel
theorem dX0_movesMade_43 : decode cX0_movesMade 43 = .ok (.iload 4, 2) := by decide +kernel
theorem dX0_movesMade_45 : decode cX0_movesMade 45 = .ok (.invokevirtual 46, 3) := by decide +kernel
theorem dX0_movesMade_48 : decode cX0_movesMade 48 = .ok (.invokevirtual 50, 3) := by decide +kernel
theorem dX0_movesMade_51 : decode cX0_movesMade 51 = .ok (.istore 5, 2) := by decide +kernel
theorem dX0_movesMade_53 : decode cX0_movesMade 53 = .ok (.aload_n 0, 1) := by decide +kernel
theorem dX0_movesMade_54 : decode cX0_movesMade 54 = .ok (.getfield 29, 3) := by decide +kernel
theorem dX0_movesMade_57 : decode cX0_movesMade 57 = .ok (.aload_n 1, 1) := by decide +kernel
theorem dX0_movesMade_58 : decode cX0_movesMade 58 = .ok (.iload_n 2, 1) := by decide +kernel
theorem dX0_movesMade_59 : decode cX0_movesMade 59 = .ok (.invokevirtual 54, 3) := by decide +kernel
theorem dX0_movesMade_62 : decode cX0_movesMade 62 = .ok (.ifCond .eq 6, 3) := by decide +kernel
theorem dX0_movesMade_65 : decode cX0_movesMade 65 = .ok (.iinc 3 1, 3) := by decide +kernel
theorem dX0_movesMade_68 : decode cX0_movesMade 68 = .ok (.aload_n 0, 1) := by decide +kernel
theorem dX0_movesMade_69 : decode cX0_movesMade 69 = .ok (.getfield 29, 3) := by decide +kernel
theorem dX0_movesMade_72 : decode cX0_movesMade 72 = .ok (.aload_n 1, 1) := by decide +kernel
theorem dX0_movesMade_73 : decode cX0_movesMade 73 = .ok (.aload_n 0, 1) := by decide +kernel
theorem dX0_movesMade_74 : decode cX0_movesMade 74 = .ok (.getfield 16, 3) := by decide +kernel
theorem dX0_movesMade_77 : decode cX0_movesMade 77 = .ok (.iload 4, 2) := by decide +kernel
theorem dX0_movesMade_79 : decode cX0_movesMade 79 = .ok (.invokevirtual 46, 3) := by decide +kernel
theorem dX0_movesMade_82 : decode cX0_movesMade 82 = .ok (.iload 5, 2) := by decide +kernel
theorem dX0_movesMade_84 : decode cX0_movesMade 84 = .ok (.invokevirtual 58, 3) := by decide +kernel
theorem dX0_movesMade_87 : decode cX0_movesMade 87 = .ok (.iinc 4 1, 3) := by decide +kernel
theorem dX0_movesMade_90 : decode cX0_movesMade 90 = .ok (.goto (-68), 3) := by decide +kernel
theorem dX0_movesMade_93 : decode cX0_movesMade 93 = .ok (.iload_n 3, 1) := by decide +kernel
theorem dX0_movesMade_94 : decode cX0_movesMade 94 = .ok (.ireturn, 1) := by decide +kernel
theorem dX0_pairsMade_0 : decode cX0_pairsMade 0 = .ok (.aload_n 0, 1) := by decide +kernel
theorem dX0_pairsMade_1 : decode cX0_pairsMade 1 = .ok (.getfield 29, 3) := by decide +kernel
theorem dX0_pairsMade_4 : decode cX0_pairsMade 4 = .ok (.aload_n 1, 1) := by decide +kernel
theorem dX0_pairsMade_5 : decode cX0_pairsMade 5 = .ok (.aload_n 0, 1) := by decide +kernel
theorem dX0_pairsMade_6 : decode cX0_pairsMade 6 = .ok (.getfield 10, 3) := by decide +kernel
theorem dX0_pairsMade_9 : decode cX0_pairsMade 9 = .ok (.invokevirtual 33, 3) := by decide +kernel
theorem dX0_pairsMade_12 : decode cX0_pairsMade 12 = .ok (.aload_n 1, 1) := by decide +kernel
theorem dX0_pairsMade_13 : decode cX0_pairsMade 13 = .ok (.getfield 39, 3) := by decide +kernel
theorem dX0_pairsMade_16 : decode cX0_pairsMade 16 = .ok (.istore_n 2, 1) := by decide +kernel
theorem dX0_pairsMade_17 : decode cX0_pairsMade 17 = .ok (.iconst 0, 1) := by decide +kernel
theorem dX0_pairsMade_18 : decode cX0_pairsMade 18 = .ok (.istore_n 3, 1) := by decide +kernel
theorem dX0_pairsMade_19 : decode cX0_pairsMade 19 = .ok (.iconst 0, 1) := by decide +kernel
theorem dX0_pairsMade_20 : decode cX0_pairsMade 20 = .ok (.istore 4, 2) := by decide +kernel
theorem dX0_pairsMade_22 : decode cX0_pairsMade 22 = .ok (.iload 4, 2) := by decide +kernel
theorem dX0_pairsMade_24 : decode cX0_pairsMade 24 = .ok (.aload_n 0, 1) := by decide +kernel
theorem dX0_pairsMade_25 : decode cX0_pairsMade 25 = .ok (.getfield 10, 3) := by decide +kernel
theorem dX0_pairsMade_28 : decode cX0_pairsMade 28 = .ok (.getfield 43, 3) := by decide +kernel
theorem dX0_pairsMade_31 : decode cX0_pairsMade 31 = .ok (.if_icmp .ge 67, 3) := by decide +kernel
theorem dX0_pairsMade_34 : decode cX0_pairsMade 34 = .ok (.aload_n 0, 1) := by decide +kernel
theorem dX0_pairsMade_35 : decode cX0_pairsMade 35 = .ok (.getfield 29, 3) := by decide +kernel
theorem dX0_pairsMade_38 : decode cX0_pairsMade 38 = .ok (.aload_n 1, 1) := by decide +kernel
theorem dX0_pairsMade_39 : decode cX0_pairsMade 39 = .ok (.aload_n 0, 1) := by decide +kernel
theorem dX0_pairsMade_40 : decode cX0_pairsMade 40 = .ok (.getfield 10, 3) := by decide +kernel
theorem dX0_pairsMade_43 : decode cX0_pairsMade 43 = .ok (.iload 4, 2) := by decide +kernel
theorem dX0_pairsMade_45 : decode cX0_pairsMade 45 = .ok (.invokevirtual 46, 3) := by decide +kernel
theorem dX0_pairsMade_48 : decode cX0_pairsMade 48 = .ok (.invokevirtual 50, 3) := by decide +kernel
theorem dX0_pairsMade_51 : decode cX0_pairsMade 51 = .ok (.istore 5, 2) := by decide +kernel
theorem dX0_pairsMade_53 : decode cX0_pairsMade 53 = .ok (.aload_n 0, 1) := by decide +kernel
theorem dX0_pairsMade_54 : decode cX0_pairsMade 54 = .ok (.getfield 29, 3) := by decide +kernel
theorem dX0_pairsMade_57 : decode cX0_pairsMade 57 = .ok (.aload_n 1, 1) := by decide +kernel
theorem dX0_pairsMade_58 : decode cX0_pairsMade 58 = .ok (.iload_n 2, 1) := by decide +kernel
theorem dX0_pairsMade_59 : decode cX0_pairsMade 59 = .ok (.invokevirtual 54, 3) := by decide +kernel
theorem dX0_pairsMade_62 : decode cX0_pairsMade 62 = .ok (.ifCond .eq 11, 3) := by decide +kernel
theorem dX0_pairsMade_65 : decode cX0_pairsMade 65 = .ok (.iload_n 3, 1) := by decide +kernel
theorem dX0_pairsMade_66 : decode cX0_pairsMade 66 = .ok (.aload_n 0, 1) := by decide +kernel
theorem dX0_pairsMade_67 : decode cX0_pairsMade 67 = .ok (.aload_n 1, 1) := by decide +kernel
theorem dX0_pairsMade_68 : decode cX0_pairsMade 68 = .ok (.invokevirtual 62, 3) := by decide +kernel
theorem dX0_pairsMade_71 : decode cX0_pairsMade 71 = .ok (.iadd, 1) := by decide +kernel
theorem dX0_pairsMade_72 : decode cX0_pairsMade 72 = .ok (.istore_n 3, 1) := by decide +kernel
theorem dX0_pairsMade_73 : decode cX0_pairsMade 73 = .ok (.aload_n 0, 1) := by decide +kernel
theorem dX0_pairsMade_74 : decode cX0_pairsMade 74 = .ok (.getfield 29, 3) := by decide +kernel
theorem dX0_pairsMade_77 : decode cX0_pairsMade 77 = .ok (.aload_n 1, 1) := by decide +kernel
theorem dX0_pairsMade_78 : decode cX0_pairsMade 78 = .ok (.aload_n 0, 1) := by decide +kernel
theorem dX0_pairsMade_79 : decode cX0_pairsMade 79 = .ok (.getfield 10, 3) := by decide +kernel
theorem dX0_pairsMade_82 : decode cX0_pairsMade 82 = .ok (.iload 4, 2) := by decide +kernel
theorem dX0_pairsMade_84 : decode cX0_pairsMade 84 = .ok (.invokevirtual 46, 3) := by decide +kernel
theorem dX0_pairsMade_87 : decode cX0_pairsMade 87 = .ok (.iload 5, 2) := by decide +kernel
theorem dX0_pairsMade_89 : decode cX0_pairsMade 89 = .ok (.invokevirtual 58, 3) := by decide +kernel
theorem dX0_pairsMade_92 : decode cX0_pairsMade 92 = .ok (.iinc 4 1, 3) := by decide +kernel
theorem dX0_pairsMade_95 : decode cX0_pairsMade 95 = .ok (.goto (-73), 3) := by decide +kernel
theorem dX0_pairsMade_98 : decode cX0_pairsMade 98 = .ok (.iload_n 3, 1) := by decide +kernel
theorem dX0_pairsMade_99 : decode cX0_pairsMade 99 = .ok (.ireturn, 1) := by decide +kernel
theorem dX0_movesCopied_0 : decode cX0_movesCopied 0 = .ok (.aload_n 0, 1) := by decide +kernel
theorem dX0_movesCopied_1 : decode cX0_movesCopied 1 = .ok (.getfield 29, 3) := by decide +kernel
theorem dX0_movesCopied_4 : decode cX0_movesCopied 4 = .ok (.aload_n 1, 1) := by decide +kernel
theorem dX0_movesCopied_5 : decode cX0_movesCopied 5 = .ok (.aload_n 0, 1) := by decide +kernel
theorem dX0_movesCopied_6 : decode cX0_movesCopied 6 = .ok (.getfield 16, 3) := by decide +kernel
theorem dX0_movesCopied_9 : decode cX0_movesCopied 9 = .ok (.invokevirtual 33, 3) := by decide +kernel
theorem dX0_movesCopied_12 : decode cX0_movesCopied 12 = .ok (.iconst 0, 1) := by decide +kernel
theorem dX0_movesCopied_13 : decode cX0_movesCopied 13 = .ok (.istore_n 2, 1) := by decide +kernel
theorem dX0_movesCopied_14 : decode cX0_movesCopied 14 = .ok (.iconst 0, 1) := by decide +kernel
theorem dX0_movesCopied_15 : decode cX0_movesCopied 15 = .ok (.istore_n 3, 1) := by decide +kernel
theorem dX0_movesCopied_16 : decode cX0_movesCopied 16 = .ok (.iload_n 3, 1) := by decide +kernel
theorem dX0_movesCopied_17 : decode cX0_movesCopied 17 = .ok (.aload_n 0, 1) := by decide +kernel
theorem dX0_movesCopied_18 : decode cX0_movesCopied 18 = .ok (.getfield 16, 3) := by decide +kernel
theorem dX0_movesCopied_21 : decode cX0_movesCopied 21 = .ok (.getfield 43, 3) := by decide +kernel
theorem dX0_movesCopied_24 : decode cX0_movesCopied 24 = .ok (.if_icmp .ge 58, 3) := by decide +kernel
theorem dX0_movesCopied_27 : decode cX0_movesCopied 27 = .ok (.aload_n 0, 1) := by decide +kernel
theorem dX0_movesCopied_28 : decode cX0_movesCopied 28 = .ok (.getfield 26, 3) := by decide +kernel
theorem dX0_movesCopied_31 : decode cX0_movesCopied 31 = .ok (.aload_n 1, 1) := by decide +kernel
theorem dX0_movesCopied_32 : decode cX0_movesCopied 32 = .ok (.invokevirtual 66, 3) := by decide +kernel
theorem dX0_movesCopied_35 : decode cX0_movesCopied 35 = .ok (.aload_n 0, 1) := by decide +kernel
theorem dX0_movesCopied_36 : decode cX0_movesCopied 36 = .ok (.getfield 29, 3) := by decide +kernel
theorem dX0_movesCopied_39 : decode cX0_movesCopied 39 = .ok (.aload_n 0, 1) := by decide +kernel
theorem dX0_movesCopied_40 : decode cX0_movesCopied 40 = .ok (.getfield 26, 3) := by decide +kernel
theorem dX0_movesCopied_43 : decode cX0_movesCopied 43 = .ok (.aload_n 0, 1) := by decide +kernel
theorem dX0_movesCopied_44 : decode cX0_movesCopied 44 = .ok (.getfield 16, 3) := by decide +kernel
theorem dX0_movesCopied_47 : decode cX0_movesCopied 47 = .ok (.iload_n 3, 1) := by decide +kernel
theorem dX0_movesCopied_48 : decode cX0_movesCopied 48 = .ok (.invokevirtual 46, 3) := by decide +kernel
theorem dX0_movesCopied_51 : decode cX0_movesCopied 51 = .ok (.invokevirtual 50, 3) := by decide +kernel
theorem dX0_movesCopied_54 : decode cX0_movesCopied 54 = .ok (.pop, 1) := by decide +kernel
theorem dX0_movesCopied_55 : decode cX0_movesCopied 55 = .ok (.aload_n 0, 1) := by decide +kernel
theorem dX0_movesCopied_56 : decode cX0_movesCopied 56 = .ok (.getfield 29, 3) := by decide +kernel
theorem dX0_movesCopied_59 : decode cX0_movesCopied 59 = .ok (.aload_n 0, 1) := by decide +kernel
theorem dX0_movesCopied_60 : decode cX0_movesCopied 60 = .ok (.getfield 26, 3) := by decide +kernel
theorem dX0_movesCopied_63 : decode cX0_movesCopied 63 = .ok (.aload_n 1, 1) := by decide +kernel
theorem dX0_movesCopied_64 : decode cX0_movesCopied 64 = .ok (.getfield 39, 3) := by decide +kernel
theorem dX0_movesCopied_67 : decode cX0_movesCopied 67 = .ok (.invokevirtual 54, 3) := by decide +kernel
theorem dX0_movesCopied_70 : decode cX0_movesCopied 70 = .ok (.ifCond .eq 6, 3) := by decide +kernel
theorem dX0_movesCopied_73 : decode cX0_movesCopied 73 = .ok (.iinc 2 1, 3) := by decide +kernel
theorem dX0_movesCopied_76 : decode cX0_movesCopied 76 = .ok (.iinc 3 1, 3) := by decide +kernel
theorem dX0_movesCopied_79 : decode cX0_movesCopied 79 = .ok (.goto (-63), 3) := by decide +kernel
theorem dX0_movesCopied_82 : decode cX0_movesCopied 82 = .ok (.iload_n 2, 1) := by decide +kernel
theorem dX0_movesCopied_83 : decode cX0_movesCopied 83 = .ok (.ireturn, 1) := by decide +kernel
theorem dX0_pairsCopied_0 : decode cX0_pairsCopied 0 = .ok (.aload_n 0, 1) := by decide +kernel
theorem dX0_pairsCopied_1 : decode cX0_pairsCopied 1 = .ok (.getfield 29, 3) := by decide +kernel
theorem dX0_pairsCopied_4 : decode cX0_pairsCopied 4 = .ok (.aload_n 1, 1) := by decide +kernel
theorem dX0_pairsCopied_5 : decode cX0_pairsCopied 5 = .ok (.aload_n 0, 1) := by decide +kernel
theorem dX0_pairsCopied_6 : decode cX0_pairsCopied 6 = .ok (.getfield 10, 3) := by decide +kernel
theorem dX0_pairsCopied_9 : decode cX0_pairsCopied 9 = .ok (.invokevirtual 33, 3) := by decide +kernel
theorem dX0_pairsCopied_12 : decode cX0_pairsCopied 12 = .ok (.iconst 0, 1) := by decide +kernel
theorem dX0_pairsCopied_13 : decode cX0_pairsCopied 13 = .ok (.istore_n 2, 1) := by decide +kernel
theorem dX0_pairsCopied_14 : decode cX0_pairsCopied 14 = .ok (.iconst 0, 1) := by decide +kernel
theorem dX0_pairsCopied_15 : decode cX0_pairsCopied 15 = .ok (.istore_n 3, 1) := by decide +kernel
theorem dX0_pairsCopied_16 : decode cX0_pairsCopied 16 = .ok (.iload_n 3, 1) := by decide +kernel
theorem dX0_pairsCopied_17 : decode cX0_pairsCopied 17 = .ok (.aload_n 0, 1) := by decide +kernel
theorem dX0_pairsCopied_18 : decode cX0_pairsCopied 18 = .ok (.getfield 10, 3) := by decide +kernel
theorem dX0_pairsCopied_21 : decode cX0_pairsCopied 21 = .ok (.getfield 43, 3) := by decide +kernel
theorem dX0_pairsCopied_24 : decode cX0_pairsCopied 24 = .ok (.if_icmp .ge 66, 3) := by decide +kernel
theorem dX0_pairsCopied_27 : decode cX0_pairsCopied 27 = .ok (.aload_n 0, 1) := by decide +kernel
theorem dX0_pairsCopied_28 : decode cX0_pairsCopied 28 = .ok (.getfield 22, 3) := by decide +kernel
theorem dX0_pairsCopied_31 : decode cX0_pairsCopied 31 = .ok (.aload_n 1, 1) := by decide +kernel
theorem dX0_pairsCopied_32 : decode cX0_pairsCopied 32 = .ok (.invokevirtual 66, 3) := by decide +kernel
theorem dX0_pairsCopied_35 : decode cX0_pairsCopied 35 = .ok (.aload_n 0, 1) := by decide +kernel
theorem dX0_pairsCopied_36 : decode cX0_pairsCopied 36 = .ok (.getfield 29, 3) := by decide +kernel
theorem dX0_pairsCopied_39 : decode cX0_pairsCopied 39 = .ok (.aload_n 0, 1) := by decide +kernel
theorem dX0_pairsCopied_40 : decode cX0_pairsCopied 40 = .ok (.getfield 22, 3) := by decide +kernel
theorem dX0_pairsCopied_43 : decode cX0_pairsCopied 43 = .ok (.aload_n 0, 1) := by decide +kernel
theorem dX0_pairsCopied_44 : decode cX0_pairsCopied 44 = .ok (.getfield 10, 3) := by decide +kernel
theorem dX0_pairsCopied_47 : decode cX0_pairsCopied 47 = .ok (.iload_n 3, 1) := by decide +kernel
theorem dX0_pairsCopied_48 : decode cX0_pairsCopied 48 = .ok (.invokevirtual 46, 3) := by decide +kernel
theorem dX0_pairsCopied_51 : decode cX0_pairsCopied 51 = .ok (.invokevirtual 50, 3) := by decide +kernel
theorem dX0_pairsCopied_54 : decode cX0_pairsCopied 54 = .ok (.pop, 1) := by decide +kernel
theorem dX0_pairsCopied_55 : decode cX0_pairsCopied 55 = .ok (.aload_n 0, 1) := by decide +kernel
theorem dX0_pairsCopied_56 : decode cX0_pairsCopied 56 = .ok (.getfield 29, 3) := by decide +kernel
theorem dX0_pairsCopied_59 : decode cX0_pairsCopied 59 = .ok (.aload_n 0, 1) := by decide +kernel
theorem dX0_pairsCopied_60 : decode cX0_pairsCopied 60 = .ok (.getfield 22, 3) := by decide +kernel
theorem dX0_pairsCopied_63 : decode cX0_pairsCopied 63 = .ok (.aload_n 1, 1) := by decide +kernel
theorem dX0_pairsCopied_64 : decode cX0_pairsCopied 64 = .ok (.getfield 39, 3) := by decide +kernel
theorem dX0_pairsCopied_67 : decode cX0_pairsCopied 67 = .ok (.invokevirtual 54, 3) := by decide +kernel
theorem dX0_pairsCopied_70 : decode cX0_pairsCopied 70 = .ok (.ifCond .eq 14, 3) := by decide +kernel
theorem dX0_pairsCopied_73 : decode cX0_pairsCopied 73 = .ok (.iload_n 2, 1) := by decide +kernel
theorem dX0_pairsCopied_74 : decode cX0_pairsCopied 74 = .ok (.aload_n 0, 1) := by decide +kernel
theorem dX0_pairsCopied_75 : decode cX0_pairsCopied 75 = .ok (.aload_n 0, 1) := by decide +kernel
theorem dX0_pairsCopied_76 : decode cX0_pairsCopied 76 = .ok (.getfield 22, 3) := by decide +kernel
theorem dX0_pairsCopied_79 : decode cX0_pairsCopied 79 = .ok (.invokevirtual 70, 3) := by decide +kernel
theorem dX0_pairsCopied_82 : decode cX0_pairsCopied 82 = .ok (.iadd, 1) := by decide +kernel
theorem dX0_pairsCopied_83 : decode cX0_pairsCopied 83 = .ok (.istore_n 2, 1) := by decide +kernel
theorem dX0_pairsCopied_84 : decode cX0_pairsCopied 84 = .ok (.iinc 3 1, 3) := by decide +kernel
theorem dX0_pairsCopied_87 : decode cX0_pairsCopied 87 = .ok (.goto (-71), 3) := by decide +kernel
theorem dX0_pairsCopied_90 : decode cX0_pairsCopied 90 = .ok (.iload_n 2, 1) := by decide +kernel
theorem dX0_pairsCopied_91 : decode cX0_pairsCopied 91 = .ok (.ireturn, 1) := by decide +kernel
theorem dX1_init_0 : decode cX1_init 0 = .ok (.aload_n 0, 1) := by decide +kernel
theorem dX1_init_1 : decode cX1_init 1 = .ok (.invokespecial 3, 3) := by decide +kernel
theorem dX1_init_4 : decode cX1_init 4 = .ok (.aload_n 0, 1) := by decide +kernel
theorem dX1_init_5 : decode cX1_init 5 = .ok (.bipush 6, 2) := by decide +kernel
theorem dX1_init_7 : decode cX1_init 7 = .ok (.newarray .int, 2) := by decide +kernel
theorem dX1_init_9 : decode cX1_init 9 = .ok (.putfield 9, 3) := by decide +kernel
theorem dX1_init_12 : decode cX1_init 12 = .ok (.aload_n 0, 1) := by decide +kernel
theorem dX1_init_13 : decode cX1_init 13 = .ok (.bipush 36, 2) := by decide +kernel
theorem dX1_init_15 : decode cX1_init 15 = .ok (.newarray .int, 2) := by decide +kernel
theorem dX1_init_17 : decode cX1_init 17 = .ok (.putfield 15, 3) := by decide +kernel
theorem dX1_init_20 : decode cX1_init 20 = .ok (.aload_n 0, 1) := by decide +kernel
theorem dX1_init_21 : decode cX1_init 21 = .ok (.bipush 36, 2) := by decide +kernel
theorem dX1_init_23 : decode cX1_init 23 = .ok (.newarray .int, 2) := by decide +kernel
theorem dX1_init_25 : decode cX1_init 25 = .ok (.putfield 18, 3) := by decide +kernel
theorem dX1_init_28 : decode cX1_init 28 = .ok (.aload_n 0, 1) := by decide +kernel
theorem dX1_init_29 : decode cX1_init 29 = .ok (.bipush 36, 2) := by decide +kernel
theorem dX1_init_31 : decode cX1_init 31 = .ok (.newarray .int, 2) := by decide +kernel
theorem dX1_init_33 : decode cX1_init 33 = .ok (.putfield 21, 3) := by decide +kernel
theorem dX1_init_36 : decode cX1_init 36 = .ok (.aload_n 0, 1) := by decide +kernel
theorem dX1_init_37 : decode cX1_init 37 = .ok (.bipush 36, 2) := by decide +kernel
theorem dX1_init_39 : decode cX1_init 39 = .ok (.newarray .int, 2) := by decide +kernel
theorem dX1_init_41 : decode cX1_init 41 = .ok (.putfield 24, 3) := by decide +kernel
theorem dX1_init_44 : decode cX1_init 44 = .ok (.aload_n 0, 1) := by decide +kernel
theorem dX1_init_45 : decode cX1_init 45 = .ok (.bipush 6, 2) := by decide +kernel
theorem dX1_init_47 : decode cX1_init 47 = .ok (.newarray .int, 2) := by decide +kernel
theorem dX1_init_49 : decode cX1_init 49 = .ok (.putfield 27, 3) := by decide +kernel
theorem dX1_init_52 : decode cX1_init 52 = .ok (.aload_n 0, 1) := by decide +kernel
theorem dX1_init_53 : decode cX1_init 53 = .ok (.bipush 6, 2) := by decide +kernel
theorem dX1_init_55 : decode cX1_init 55 = .ok (.newarray .int, 2) := by decide +kernel
theorem dX1_init_57 : decode cX1_init 57 = .ok (.putfield 30, 3) := by decide +kernel
theorem dX1_init_60 : decode cX1_init 60 = .ok (.aload_n 0, 1) := by decide +kernel
theorem dX1_init_61 : decode cX1_init 61 = .ok (.iconst 4, 1) := by decide +kernel
theorem dX1_init_62 : decode cX1_init 62 = .ok (.newarray .int, 2) := by decide +kernel
theorem dX1_init_64 : decode cX1_init 64 = .ok (.putfield 33, 3) := by decide +kernel
theorem dX1_init_67 : decode cX1_init 67 = .ok (.aload_n 0, 1) := by decide +kernel
theorem dX1_init_68 : decode cX1_init 68 = .ok (.bipush 16, 2) := by decide +kernel
theorem dX1_init_70 : decode cX1_init 70 = .ok (.newarray .int, 2) := by decide +kernel
theorem dX1_init_72 : decode cX1_init 72 = .ok (.putfield 36, 3) := by decide +kernel
theorem dX1_init_75 : decode cX1_init 75 = .ok (.aload_n 0, 1) := by decide +kernel
theorem dX1_init_76 : decode cX1_init 76 = .ok (.getfield 30, 3) := by decide +kernel
theorem dX1_init_79 : decode cX1_init 79 = .ok (.iconst (-1), 1) := by decide +kernel
theorem dX1_init_80 : decode cX1_init 80 = .ok (.invokestatic 39, 3) := by decide +kernel
theorem dX1_init_83 : decode cX1_init 83 = .ok (.aload_n 0, 1) := by decide +kernel
theorem dX1_init_84 : decode cX1_init 84 = .ok (.getfield 33, 3) := by decide +kernel
theorem dX1_init_87 : decode cX1_init 87 = .ok (.iconst (-1), 1) := by decide +kernel
theorem dX1_init_88 : decode cX1_init 88 = .ok (.invokestatic 39, 3) := by decide +kernel
theorem dX1_init_91 : decode cX1_init 91 = .ok (.return_, 1) := by decide +kernel
theorem dX1_copyFrom_0 : decode cX1_copyFrom 0 = .ok (.aload_n 1, 1) := by decide +kernel
theorem dX1_copyFrom_1 : decode cX1_copyFrom 1 = .ok (.getfield 9, 3) := by decide +kernel
theorem dX1_copyFrom_4 : decode cX1_copyFrom 4 = .ok (.aload_n 0, 1) := by decide +kernel
theorem dX1_copyFrom_5 : decode cX1_copyFrom 5 = .ok (.getfield 9, 3) := by decide +kernel
theorem dX1_copyFrom_8 : decode cX1_copyFrom 8 = .ok (.invokestatic 43, 3) := by decide +kernel
theorem dX1_copyFrom_11 : decode cX1_copyFrom 11 = .ok (.aload_n 1, 1) := by decide +kernel
theorem dX1_copyFrom_12 : decode cX1_copyFrom 12 = .ok (.getfield 15, 3) := by decide +kernel
theorem dX1_copyFrom_15 : decode cX1_copyFrom 15 = .ok (.aload_n 0, 1) := by decide +kernel
theorem dX1_copyFrom_16 : decode cX1_copyFrom 16 = .ok (.getfield 15, 3) := by decide +kernel
theorem dX1_copyFrom_19 : decode cX1_copyFrom 19 = .ok (.invokestatic 43, 3) := by decide +kernel
theorem dX1_copyFrom_22 : decode cX1_copyFrom 22 = .ok (.aload_n 1, 1) := by decide +kernel
theorem dX1_copyFrom_23 : decode cX1_copyFrom 23 = .ok (.getfield 18, 3) := by decide +kernel
theorem dX1_copyFrom_26 : decode cX1_copyFrom 26 = .ok (.aload_n 0, 1) := by decide +kernel
theorem dX1_copyFrom_27 : decode cX1_copyFrom 27 = .ok (.getfield 18, 3) := by decide +kernel
theorem dX1_copyFrom_30 : decode cX1_copyFrom 30 = .ok (.invokestatic 43, 3) := by decide +kernel
theorem dX1_copyFrom_33 : decode cX1_copyFrom 33 = .ok (.aload_n 1, 1) := by decide +kernel
theorem dX1_copyFrom_34 : decode cX1_copyFrom 34 = .ok (.getfield 21, 3) := by decide +kernel
theorem dX1_copyFrom_37 : decode cX1_copyFrom 37 = .ok (.aload_n 0, 1) := by decide +kernel
theorem dX1_copyFrom_38 : decode cX1_copyFrom 38 = .ok (.getfield 21, 3) := by decide +kernel
theorem dX1_copyFrom_41 : decode cX1_copyFrom 41 = .ok (.invokestatic 43, 3) := by decide +kernel
theorem dX1_copyFrom_44 : decode cX1_copyFrom 44 = .ok (.aload_n 1, 1) := by decide +kernel
theorem dX1_copyFrom_45 : decode cX1_copyFrom 45 = .ok (.getfield 24, 3) := by decide +kernel
theorem dX1_copyFrom_48 : decode cX1_copyFrom 48 = .ok (.aload_n 0, 1) := by decide +kernel
theorem dX1_copyFrom_49 : decode cX1_copyFrom 49 = .ok (.getfield 24, 3) := by decide +kernel
theorem dX1_copyFrom_52 : decode cX1_copyFrom 52 = .ok (.invokestatic 43, 3) := by decide +kernel
theorem dX1_copyFrom_55 : decode cX1_copyFrom 55 = .ok (.aload_n 1, 1) := by decide +kernel
theorem dX1_copyFrom_56 : decode cX1_copyFrom 56 = .ok (.getfield 27, 3) := by decide +kernel
theorem dX1_copyFrom_59 : decode cX1_copyFrom 59 = .ok (.aload_n 0, 1) := by decide +kernel
theorem dX1_copyFrom_60 : decode cX1_copyFrom 60 = .ok (.getfield 27, 3) := by decide +kernel
theorem dX1_copyFrom_63 : decode cX1_copyFrom 63 = .ok (.invokestatic 43, 3) := by decide +kernel
theorem dX1_copyFrom_66 : decode cX1_copyFrom 66 = .ok (.aload_n 1, 1) := by decide +kernel
theorem dX1_copyFrom_67 : decode cX1_copyFrom 67 = .ok (.getfield 30, 3) := by decide +kernel
theorem dX1_copyFrom_70 : decode cX1_copyFrom 70 = .ok (.aload_n 0, 1) := by decide +kernel
theorem dX1_copyFrom_71 : decode cX1_copyFrom 71 = .ok (.getfield 30, 3) := by decide +kernel
theorem dX1_copyFrom_74 : decode cX1_copyFrom 74 = .ok (.invokestatic 43, 3) := by decide +kernel
theorem dX1_copyFrom_77 : decode cX1_copyFrom 77 = .ok (.aload_n 1, 1) := by decide +kernel
theorem dX1_copyFrom_78 : decode cX1_copyFrom 78 = .ok (.getfield 33, 3) := by decide +kernel
theorem dX1_copyFrom_81 : decode cX1_copyFrom 81 = .ok (.aload_n 0, 1) := by decide +kernel
theorem dX1_copyFrom_82 : decode cX1_copyFrom 82 = .ok (.getfield 33, 3) := by decide +kernel
theorem dX1_copyFrom_85 : decode cX1_copyFrom 85 = .ok (.invokestatic 43, 3) := by decide +kernel
theorem dX1_copyFrom_88 : decode cX1_copyFrom 88 = .ok (.aload_n 1, 1) := by decide +kernel
theorem dX1_copyFrom_89 : decode cX1_copyFrom 89 = .ok (.getfield 36, 3) := by decide +kernel
theorem dX1_copyFrom_92 : decode cX1_copyFrom 92 = .ok (.aload_n 0, 1) := by decide +kernel
theorem dX1_copyFrom_93 : decode cX1_copyFrom 93 = .ok (.getfield 36, 3) := by decide +kernel
theorem dX1_copyFrom_96 : decode cX1_copyFrom 96 = .ok (.invokestatic 43, 3) := by decide +kernel
theorem dX1_copyFrom_99 : decode cX1_copyFrom 99 = .ok (.aload_n 0, 1) := by decide +kernel
theorem dX1_copyFrom_100 : decode cX1_copyFrom 100 = .ok (.aload_n 1, 1) := by decide +kernel
theorem dX1_copyFrom_101 : decode cX1_copyFrom 101 = .ok (.getfield 47, 3) := by decide +kernel
theorem dX1_copyFrom_104 : decode cX1_copyFrom 104 = .ok (.putfield 47, 3) := by decide +kernel
theorem dX1_copyFrom_107 : decode cX1_copyFrom 107 = .ok (.aload_n 0, 1) := by decide +kernel
theorem dX1_copyFrom_108 : decode cX1_copyFrom 108 = .ok (.aload_n 1, 1) := by decide +kernel
theorem dX1_copyFrom_109 : decode cX1_copyFrom 109 = .ok (.getfield 51, 3) := by decide +kernel
theorem dX1_copyFrom_112 : decode cX1_copyFrom 112 = .ok (.putfield 51, 3) := by decide +kernel
theorem dX1_copyFrom_115 : decode cX1_copyFrom 115 = .ok (.return_, 1) := by decide +kernel
theorem dX1_setParts_0 : decode cX1_setParts 0 = .ok (.aload_n 0, 1) := by decide +kernel
theorem dX1_setParts_1 : decode cX1_setParts 1 = .ok (.getfield 9, 3) := by decide +kernel
theorem dX1_setParts_4 : decode cX1_setParts 4 = .ok (.iload_n 1, 1) := by decide +kernel
theorem dX1_setParts_5 : decode cX1_setParts 5 = .ok (.aload_n 2, 1) := by decide +kernel
theorem dX1_setParts_6 : decode cX1_setParts 6 = .ok (.getfield 54, 3) := by decide +kernel
theorem dX1_setParts_9 : decode cX1_setParts 9 = .ok (.invokestatic 59, 3) := by decide +kernel
theorem dX1_setParts_12 : decode cX1_setParts 12 = .ok (.iconst 0, 1) := by decide +kernel
theorem dX1_setParts_13 : decode cX1_setParts 13 = .ok (.istore_n 3, 1) := by decide +kernel
theorem dX1_setParts_14 : decode cX1_setParts 14 = .ok (.iload_n 3, 1) := by decide +kernel
theorem dX1_setParts_15 : decode cX1_setParts 15 = .ok (.aload_n 2, 1) := by decide +kernel
theorem dX1_setParts_16 : decode cX1_setParts 16 = .ok (.getfield 54, 3) := by decide +kernel
theorem dX1_setParts_19 : decode cX1_setParts 19 = .ok (.if_icmp .ge 98, 3) := by decide +kernel
theorem dX1_setParts_22 : decode cX1_setParts 22 = .ok (.iload_n 3, 1) := by decide +kernel
theorem dX1_setParts_23 : decode cX1_setParts 23 = .ok (.bipush 6, 2) := by decide +kernel
theorem dX1_setParts_25 : decode cX1_setParts 25 = .ok (.if_icmp .ge 92, 3) := by decide +kernel
theorem dX1_setParts_28 : decode cX1_setParts 28 = .ok (.iload_n 1, 1) := by decide +kernel
theorem dX1_setParts_29 : decode cX1_setParts 29 = .ok (.bipush 6, 2) := by decide +kernel
theorem dX1_setParts_31 : decode cX1_setParts 31 = .ok (.imul, 1) := by decide +kernel
theorem dX1_setParts_32 : decode cX1_setParts 32 = .ok (.iload_n 3, 1) := by decide +kernel
theorem dX1_setParts_33 : decode cX1_setParts 33 = .ok (.iadd, 1) := by decide +kernel
theorem dX1_setParts_34 : decode cX1_setParts 34 = .ok (.istore 4, 2) := by decide +kernel
theorem dX1_setParts_36 : decode cX1_setParts 36 = .ok (.aload_n 2, 1) := by decide +kernel
theorem dX1_setParts_37 : decode cX1_setParts 37 = .ok (.getfield 63, 3) := by decide +kernel
theorem dX1_setParts_40 : decode cX1_setParts 40 = .ok (.iload_n 3, 1) := by decide +kernel
theorem dX1_setParts_41 : decode cX1_setParts 41 = .ok (.invokestatic 64, 3) := by decide +kernel
theorem dX1_setParts_44 : decode cX1_setParts 44 = .ok (.istore 5, 2) := by decide +kernel
theorem dX1_setParts_46 : decode cX1_setParts 46 = .ok (.aload_n 2, 1) := by decide +kernel
theorem dX1_setParts_47 : decode cX1_setParts 47 = .ok (.getfield 68, 3) := by decide +kernel
theorem dX1_setParts_50 : decode cX1_setParts 50 = .ok (.iload_n 3, 1) := by decide +kernel
theorem dX1_setParts_51 : decode cX1_setParts 51 = .ok (.invokestatic 64, 3) := by decide +kernel
theorem dX1_setParts_54 : decode cX1_setParts 54 = .ok (.istore 6, 2) := by decide +kernel
theorem dX1_setParts_56 : decode cX1_setParts 56 = .ok (.aload_n 0, 1) := by decide +kernel
theorem dX1_setParts_57 : decode cX1_setParts 57 = .ok (.getfield 15, 3) := by decide +kernel
theorem dX1_setParts_60 : decode cX1_setParts 60 = .ok (.iload 4, 2) := by decide +kernel
theorem dX1_setParts_62 : decode cX1_setParts 62 = .ok (.iload 5, 2) := by decide +kernel
theorem dX1_setParts_64 : decode cX1_setParts 64 = .ok (.invokestatic 59, 3) := by decide +kernel
theorem dX1_setParts_67 : decode cX1_setParts 67 = .ok (.aload_n 0, 1) := by decide +kernel
theorem dX1_setParts_68 : decode cX1_setParts 68 = .ok (.getfield 18, 3) := by decide +kernel
theorem dX1_setParts_71 : decode cX1_setParts 71 = .ok (.iload 4, 2) := by decide +kernel
theorem dX1_setParts_73 : decode cX1_setParts 73 = .ok (.iload 6, 2) := by decide +kernel
theorem dX1_setParts_75 : decode cX1_setParts 75 = .ok (.invokestatic 59, 3) := by decide +kernel
theorem dX1_setParts_78 : decode cX1_setParts 78 = .ok (.aload_n 0, 1) := by decide +kernel
theorem dX1_setParts_79 : decode cX1_setParts 79 = .ok (.getfield 21, 3) := by decide +kernel
theorem dX1_setParts_82 : decode cX1_setParts 82 = .ok (.iload 4, 2) := by decide +kernel
theorem dX1_setParts_84 : decode cX1_setParts 84 = .ok (.aload_n 2, 1) := by decide +kernel
theorem dX1_setParts_85 : decode cX1_setParts 85 = .ok (.getfield 69, 3) := by decide +kernel
theorem dX1_setParts_88 : decode cX1_setParts 88 = .ok (.iload_n 3, 1) := by decide +kernel
theorem dX1_setParts_89 : decode cX1_setParts 89 = .ok (.invokestatic 64, 3) := by decide +kernel
theorem dX1_setParts_92 : decode cX1_setParts 92 = .ok (.invokestatic 59, 3) := by decide +kernel
theorem dX1_setParts_95 : decode cX1_setParts 95 = .ok (.aload_n 0, 1) := by decide +kernel
theorem dX1_setParts_96 : decode cX1_setParts 96 = .ok (.getfield 24, 3) := by decide +kernel
theorem dX1_setParts_99 : decode cX1_setParts 99 = .ok (.iload 4, 2) := by decide +kernel
theorem dX1_setParts_101 : decode cX1_setParts 101 = .ok (.iload 5, 2) := by decide +kernel
theorem dX1_setParts_103 : decode cX1_setParts 103 = .ok (.iload 6, 2) := by decide +kernel
theorem dX1_setParts_105 : decode cX1_setParts 105 = .ok (.invokestatic 70, 3) := by decide +kernel
theorem dX1_setParts_108 : decode cX1_setParts 108 = .ok (.invokestatic 59, 3) := by decide +kernel
theorem dX1_setParts_111 : decode cX1_setParts 111 = .ok (.iinc 3 1, 3) := by decide +kernel
theorem dX1_setParts_114 : decode cX1_setParts 114 = .ok (.goto (-100), 3) := by decide +kernel
theorem dX1_setParts_117 : decode cX1_setParts 117 = .ok (.return_, 1) := by decide +kernel
theorem dX1_directionsOf_0 : decode cX1_directionsOf 0 = .ok (.iconst 0, 1) := by decide +kernel
theorem dX1_directionsOf_1 : decode cX1_directionsOf 1 = .ok (.istore_n 2, 1) := by decide +kernel
theorem dX1_directionsOf_2 : decode cX1_directionsOf 2 = .ok (.getstatic 74, 3) := by decide +kernel
theorem dX1_directionsOf_5 : decode cX1_directionsOf 5 = .ok (.iload_n 0, 1) := by decide +kernel
theorem dX1_directionsOf_6 : decode cX1_directionsOf 6 = .ok (.invokestatic 64, 3) := by decide +kernel
theorem dX1_directionsOf_9 : decode cX1_directionsOf 9 = .ok (.istore_n 3, 1) := by decide +kernel
theorem dX1_directionsOf_10 : decode cX1_directionsOf 10 = .ok (.iload_n 3, 1) := by decide +kernel
theorem dX1_directionsOf_11 : decode cX1_directionsOf 11 = .ok (.getstatic 77, 3) := by decide +kernel
theorem dX1_directionsOf_14 : decode cX1_directionsOf 14 = .ok (.iload_n 0, 1) := by decide +kernel
theorem dX1_directionsOf_15 : decode cX1_directionsOf 15 = .ok (.invokestatic 64, 3) := by decide +kernel
theorem dX1_directionsOf_18 : decode cX1_directionsOf 18 = .ok (.if_icmp .ge 61, 3) := by decide +kernel
theorem dX1_directionsOf_21 : decode cX1_directionsOf 21 = .ok (.getstatic 80, 3) := by decide +kernel
theorem dX1_directionsOf_24 : decode cX1_directionsOf 24 = .ok (.iload_n 3, 1) := by decide +kernel
theorem dX1_directionsOf_25 : decode cX1_directionsOf 25 = .ok (.invokestatic 64, 3) := by decide +kernel
theorem dX1_directionsOf_28 : decode cX1_directionsOf 28 = .ok (.istore 4, 2) := by decide +kernel
theorem dX1_directionsOf_30 : decode cX1_directionsOf 30 = .ok (.iload 4, 2) := by decide +kernel
theorem dX1_directionsOf_32 : decode cX1_directionsOf 32 = .ok (.ifCond .le 7, 3) := by decide +kernel
theorem dX1_directionsOf_35 : decode cX1_directionsOf 35 = .ok (.iconst 4, 1) := by decide +kernel
theorem dX1_directionsOf_36 : decode cX1_directionsOf 36 = .ok (.goto 15, 3) := by decide +kernel
theorem dX1_directionsOf_39 : decode cX1_directionsOf 39 = .ok (.iload 4, 2) := by decide +kernel
theorem dX1_directionsOf_41 : decode cX1_directionsOf 41 = .ok (.ifCond .ge 8, 3) := by decide +kernel
theorem dX1_directionsOf_44 : decode cX1_directionsOf 44 = .ok (.bipush 8, 2) := by decide +kernel
theorem dX1_directionsOf_46 : decode cX1_directionsOf 46 = .ok (.goto 5, 3) := by decide +kernel
theorem dX1_directionsOf_49 : decode cX1_directionsOf 49 = .ok (.bipush 16, 2) := by decide +kernel
theorem dX1_directionsOf_51 : decode cX1_directionsOf 51 = .ok (.istore 5, 2) := by decide +kernel
theorem dX1_directionsOf_53 : decode cX1_directionsOf 53 = .ok (.iload_n 1, 1) := by decide +kernel
theorem dX1_directionsOf_54 : decode cX1_directionsOf 54 = .ok (.iload 5, 2) := by decide +kernel
theorem dX1_directionsOf_56 : decode cX1_directionsOf 56 = .ok (.iand, 1) := by decide +kernel
theorem dX1_directionsOf_57 : decode cX1_directionsOf 57 = .ok (.ifCond .ne 10, 3) := by decide +kernel
theorem dX1_directionsOf_60 : decode cX1_directionsOf 60 = .ok (.iload_n 1, 1) := by decide +kernel
theorem dX1_directionsOf_61 : decode cX1_directionsOf 61 = .ok (.bipush 28, 2) := by decide +kernel
theorem dX1_directionsOf_63 : decode cX1_directionsOf 63 = .ok (.iand, 1) := by decide +kernel
theorem dX1_directionsOf_64 : decode cX1_directionsOf 64 = .ok (.ifCond .ne 9, 3) := by decide +kernel
theorem dX1_directionsOf_67 : decode cX1_directionsOf 67 = .ok (.iload_n 2, 1) := by decide +kernel
theorem dX1_directionsOf_68 : decode cX1_directionsOf 68 = .ok (.iconst 1, 1) := by decide +kernel
theorem dX1_directionsOf_69 : decode cX1_directionsOf 69 = .ok (.iload_n 3, 1) := by decide +kernel
theorem dX1_directionsOf_70 : decode cX1_directionsOf 70 = .ok (.ishl, 1) := by decide +kernel
theorem dX1_directionsOf_71 : decode cX1_directionsOf 71 = .ok (.ior, 1) := by decide +kernel
theorem dX1_directionsOf_72 : decode cX1_directionsOf 72 = .ok (.istore_n 2, 1) := by decide +kernel
theorem dX1_directionsOf_73 : decode cX1_directionsOf 73 = .ok (.iinc 3 1, 3) := by decide +kernel
theorem dX1_directionsOf_76 : decode cX1_directionsOf 76 = .ok (.goto (-66), 3) := by decide +kernel
theorem dX1_directionsOf_79 : decode cX1_directionsOf 79 = .ok (.iload_n 2, 1) := by decide +kernel
theorem dX1_directionsOf_80 : decode cX1_directionsOf 80 = .ok (.ireturn, 1) := by decide +kernel
theorem dX1_partsOf_0 : decode cX1_partsOf 0 = .ok (.aload_n 0, 1) := by decide +kernel
theorem dX1_partsOf_1 : decode cX1_partsOf 1 = .ok (.getfield 9, 3) := by decide +kernel
theorem dX1_partsOf_4 : decode cX1_partsOf 4 = .ok (.iload_n 1, 1) := by decide +kernel
theorem dX1_partsOf_5 : decode cX1_partsOf 5 = .ok (.invokestatic 64, 3) := by decide +kernel
theorem dX1_partsOf_8 : decode cX1_partsOf 8 = .ok (.ireturn, 1) := by decide +kernel
theorem dX1_directionCount_0 : decode cX1_directionCount 0 = .ok (.iconst 0, 1) := by decide +kernel
theorem dX1_directionCount_1 : decode cX1_directionCount 1 = .ok (.istore_n 2, 1) := by decide +kernel
theorem dX1_directionCount_2 : decode cX1_directionCount 2 = .ok (.iconst 0, 1) := by decide +kernel
theorem dX1_directionCount_3 : decode cX1_directionCount 3 = .ok (.istore_n 3, 1) := by decide +kernel
theorem dX1_directionCount_4 : decode cX1_directionCount 4 = .ok (.iload_n 3, 1) := by decide +kernel
theorem dX1_directionCount_5 : decode cX1_directionCount 5 = .ok (.aload_n 0, 1) := by decide +kernel
theorem dX1_directionCount_6 : decode cX1_directionCount 6 = .ok (.iload_n 1, 1) := by decide +kernel
theorem dX1_directionCount_7 : decode cX1_directionCount 7 = .ok (.invokevirtual 83, 3) := by decide +kernel
theorem dX1_directionCount_10 : decode cX1_directionCount 10 = .ok (.if_icmp .ge 28, 3) := by decide +kernel
theorem dX1_directionCount_13 : decode cX1_directionCount 13 = .ok (.iload_n 2, 1) := by decide +kernel
theorem dX1_directionCount_14 : decode cX1_directionCount 14 = .ok (.aload_n 0, 1) := by decide +kernel
theorem dX1_directionCount_15 : decode cX1_directionCount 15 = .ok (.getfield 24, 3) := by decide +kernel
theorem dX1_directionCount_18 : decode cX1_directionCount 18 = .ok (.iload_n 1, 1) := by decide +kernel
theorem dX1_directionCount_19 : decode cX1_directionCount 19 = .ok (.bipush 6, 2) := by decide +kernel
theorem dX1_directionCount_21 : decode cX1_directionCount 21 = .ok (.imul, 1) := by decide +kernel
theorem dX1_directionCount_22 : decode cX1_directionCount 22 = .ok (.iload_n 3, 1) := by decide +kernel
theorem dX1_directionCount_23 : decode cX1_directionCount 23 = .ok (.iadd, 1) := by decide +kernel
theorem dX1_directionCount_24 : decode cX1_directionCount 24 = .ok (.invokestatic 64, 3) := by decide +kernel
theorem dX1_directionCount_27 : decode cX1_directionCount 27 = .ok (.invokestatic 87, 3) := by decide +kernel
theorem dX1_directionCount_30 : decode cX1_directionCount 30 = .ok (.iadd, 1) := by decide +kernel
theorem dX1_directionCount_31 : decode cX1_directionCount 31 = .ok (.istore_n 2, 1) := by decide +kernel
theorem dX1_directionCount_32 : decode cX1_directionCount 32 = .ok (.iinc 3 1, 3) := by decide +kernel
theorem dX1_directionCount_35 : decode cX1_directionCount 35 = .ok (.goto (-31), 3) := by decide +kernel
theorem dX1_directionCount_38 : decode cX1_directionCount 38 = .ok (.iload_n 2, 1) := by decide +kernel
theorem dX1_directionCount_39 : decode cX1_directionCount 39 = .ok (.ireturn, 1) := by decide +kernel
theorem dX1_isRoyal_0 : decode cX1_isRoyal 0 = .ok (.aload_n 0, 1) := by decide +kernel
theorem dX1_isRoyal_1 : decode cX1_isRoyal 1 = .ok (.getfield 27, 3) := by decide +kernel
theorem dX1_isRoyal_4 : decode cX1_isRoyal 4 = .ok (.iload_n 1, 1) := by decide +kernel
theorem dX1_isRoyal_5 : decode cX1_isRoyal 5 = .ok (.invokestatic 64, 3) := by decide +kernel
theorem dX1_isRoyal_8 : decode cX1_isRoyal 8 = .ok (.ifCond .eq 7, 3) := by decide +kernel
theorem dX1_isRoyal_11 : decode cX1_isRoyal 11 = .ok (.iconst 1, 1) := by decide +kernel
theorem dX1_isRoyal_12 : decode cX1_isRoyal 12 = .ok (.goto 4, 3) := by decide +kernel
theorem dX1_isRoyal_15 : decode cX1_isRoyal 15 = .ok (.iconst 0, 1) := by decide +kernel
theorem dX1_isRoyal_16 : decode cX1_isRoyal 16 = .ok (.ireturn, 1) := by decide +kernel
theorem dX1_promotionOf_0 : decode cX1_promotionOf 0 = .ok (.iload_n 1, 1) := by decide +kernel
theorem dX1_promotionOf_1 : decode cX1_promotionOf 1 = .ok (.invokestatic 92, 3) := by decide +kernel
theorem dX1_promotionOf_4 : decode cX1_promotionOf 4 = .ok (.ifCond .eq 14, 3) := by decide +kernel
theorem dX1_promotionOf_7 : decode cX1_promotionOf 7 = .ok (.aload_n 0, 1) := by decide +kernel
theorem dX1_promotionOf_8 : decode cX1_promotionOf 8 = .ok (.getfield 30, 3) := by decide +kernel
theorem dX1_promotionOf_11 : decode cX1_promotionOf 11 = .ok (.iload_n 1, 1) := by decide +kernel
theorem dX1_promotionOf_12 : decode cX1_promotionOf 12 = .ok (.invokestatic 64, 3) := by decide +kernel
theorem dX1_promotionOf_15 : decode cX1_promotionOf 15 = .ok (.goto 4, 3) := by decide +kernel
theorem dX1_promotionOf_18 : decode cX1_promotionOf 18 = .ok (.iconst (-1), 1) := by decide +kernel
theorem dX1_promotionOf_19 : decode cX1_promotionOf 19 = .ok (.ireturn, 1) := by decide +kernel
theorem dX1_castlings_0 : decode cX1_castlings 0 = .ok (.iconst 0, 1) := by decide +kernel
theorem dX1_castlings_1 : decode cX1_castlings 1 = .ok (.istore_n 1, 1) := by decide +kernel
theorem dX1_castlings_2 : decode cX1_castlings 2 = .ok (.iconst 0, 1) := by decide +kernel
theorem dX1_castlings_3 : decode cX1_castlings 3 = .ok (.istore_n 2, 1) := by decide +kernel
theorem dX1_castlings_4 : decode cX1_castlings 4 = .ok (.iload_n 2, 1) := by decide +kernel
theorem dX1_castlings_5 : decode cX1_castlings 5 = .ok (.aload_n 0, 1) := by decide +kernel
theorem dX1_castlings_6 : decode cX1_castlings 6 = .ok (.getfield 33, 3) := by decide +kernel
theorem dX1_castlings_9 : decode cX1_castlings 9 = .ok (.arraylength, 1) := by decide +kernel
theorem dX1_castlings_10 : decode cX1_castlings 10 = .ok (.if_icmp .ge 24, 3) := by decide +kernel
theorem dX1_castlings_13 : decode cX1_castlings 13 = .ok (.aload_n 0, 1) := by decide +kernel
theorem dX1_castlings_14 : decode cX1_castlings 14 = .ok (.getfield 33, 3) := by decide +kernel
theorem dX1_castlings_17 : decode cX1_castlings 17 = .ok (.iload_n 2, 1) := by decide +kernel
theorem dX1_castlings_18 : decode cX1_castlings 18 = .ok (.iaload, 1) := by decide +kernel
theorem dX1_castlings_19 : decode cX1_castlings 19 = .ok (.ifCond .lt 9, 3) := by decide +kernel
theorem dX1_castlings_22 : decode cX1_castlings 22 = .ok (.iload_n 1, 1) := by decide +kernel
theorem dX1_castlings_23 : decode cX1_castlings 23 = .ok (.iconst 1, 1) := by decide +kernel
theorem dX1_castlings_24 : decode cX1_castlings 24 = .ok (.iload_n 2, 1) := by decide +kernel
theorem dX1_castlings_25 : decode cX1_castlings 25 = .ok (.ishl, 1) := by decide +kernel
theorem dX1_castlings_26 : decode cX1_castlings 26 = .ok (.ior, 1) := by decide +kernel
theorem dX1_castlings_27 : decode cX1_castlings 27 = .ok (.istore_n 1, 1) := by decide +kernel
theorem dX1_castlings_28 : decode cX1_castlings 28 = .ok (.iinc 2 1, 3) := by decide +kernel
theorem dX1_castlings_31 : decode cX1_castlings 31 = .ok (.goto (-27), 3) := by decide +kernel
theorem dX1_castlings_34 : decode cX1_castlings 34 = .ok (.iload_n 1, 1) := by decide +kernel
theorem dX1_castlings_35 : decode cX1_castlings 35 = .ok (.ireturn, 1) := by decide +kernel
theorem dX1_castlingSquare_0 : decode cX1_castlingSquare 0 = .ok (.aload_n 0, 1) := by decide +kernel
theorem dX1_castlingSquare_1 : decode cX1_castlingSquare 1 = .ok (.getfield 36, 3) := by decide +kernel
theorem dX1_castlingSquare_4 : decode cX1_castlingSquare 4 = .ok (.iconst 4, 1) := by decide +kernel
theorem dX1_castlingSquare_5 : decode cX1_castlingSquare 5 = .ok (.iload_n 1, 1) := by decide +kernel
theorem dX1_castlingSquare_6 : decode cX1_castlingSquare 6 = .ok (.imul, 1) := by decide +kernel
theorem dX1_castlingSquare_7 : decode cX1_castlingSquare 7 = .ok (.iload_n 2, 1) := by decide +kernel
theorem dX1_castlingSquare_8 : decode cX1_castlingSquare 8 = .ok (.iadd, 1) := by decide +kernel
theorem dX1_castlingSquare_9 : decode cX1_castlingSquare 9 = .ok (.invokestatic 64, 3) := by decide +kernel
theorem dX1_castlingSquare_12 : decode cX1_castlingSquare 12 = .ok (.ireturn, 1) := by decide +kernel
theorem dX1_removeCastlings_0 : decode cX1_removeCastlings 0 = .ok (.aload_n 0, 1) := by decide +kernel
theorem dX1_removeCastlings_1 : decode cX1_removeCastlings 1 = .ok (.getfield 33, 3) := by decide +kernel
theorem dX1_removeCastlings_4 : decode cX1_removeCastlings 4 = .ok (.iconst (-1), 1) := by decide +kernel
theorem dX1_removeCastlings_5 : decode cX1_removeCastlings 5 = .ok (.invokestatic 39, 3) := by decide +kernel
theorem dX1_removeCastlings_8 : decode cX1_removeCastlings 8 = .ok (.return_, 1) := by decide +kernel
theorem dX2_init_0 : decode cX2_init 0 = .ok (.aload_n 0, 1) := by decide +kernel
theorem dX2_init_1 : decode cX2_init 1 = .ok (.invokespecial 3, 3) := by decide +kernel
theorem dX2_init_4 : decode cX2_init 4 = .ok (.aload_n 0, 1) := by decide +kernel
theorem dX2_init_5 : decode cX2_init 5 = .ok (.bipush 60, 2) := by decide +kernel
theorem dX2_init_7 : decode cX2_init 7 = .ok (.newarray .int, 2) := by decide +kernel
theorem dX2_init_9 : decode cX2_init 9 = .ok (.putfield 9, 3) := by decide +kernel
theorem dX2_init_12 : decode cX2_init 12 = .ok (.return_, 1) := by decide +kernel
theorem dX2_add_0 : decode cX2_add 0 = .ok (.aload_n 0, 1) := by decide +kernel
theorem dX2_add_1 : decode cX2_add 1 = .ok (.getfield 15, 3) := by decide +kernel
theorem dX2_add_4 : decode cX2_add 4 = .ok (.ifCond .lt 15, 3) := by decide +kernel
theorem dX2_add_7 : decode cX2_add 7 = .ok (.aload_n 0, 1) := by decide +kernel
theorem dX2_add_8 : decode cX2_add 8 = .ok (.getfield 15, 3) := by decide +kernel
theorem dX2_add_11 : decode cX2_add 11 = .ok (.aload_n 0, 1) := by decide +kernel
theorem dX2_add_12 : decode cX2_add 12 = .ok (.getfield 9, 3) := by decide +kernel
theorem dX2_add_15 : decode cX2_add 15 = .ok (.arraylength, 1) := by decide +kernel
theorem dX2_add_16 : decode cX2_add 16 = .ok (.if_icmp .lt 5, 3) := by decide +kernel
theorem dX2_add_19 : decode cX2_add 19 = .ok (.iconst 0, 1) := by decide +kernel
theorem dX2_add_20 : decode cX2_add 20 = .ok (.ireturn, 1) := by decide +kernel
theorem dX2_add_21 : decode cX2_add 21 = .ok (.aload_n 0, 1) := by decide +kernel
theorem dX2_add_22 : decode cX2_add 22 = .ok (.getfield 9, 3) := by decide +kernel
theorem dX2_add_25 : decode cX2_add 25 = .ok (.aload_n 0, 1) := by decide +kernel
theorem dX2_add_26 : decode cX2_add 26 = .ok (.getfield 15, 3) := by decide +kernel
theorem dX2_add_29 : decode cX2_add 29 = .ok (.iload_n 1, 1) := by decide +kernel
theorem dX2_add_30 : decode cX2_add 30 = .ok (.iastore, 1) := by decide +kernel
theorem dX2_add_31 : decode cX2_add 31 = .ok (.aload_n 0, 1) := by decide +kernel
theorem dX2_add_32 : decode cX2_add 32 = .ok (.dup, 1) := by decide +kernel
theorem dX2_add_33 : decode cX2_add 33 = .ok (.getfield 15, 3) := by decide +kernel
theorem dX2_add_36 : decode cX2_add 36 = .ok (.iconst 1, 1) := by decide +kernel
theorem dX2_add_37 : decode cX2_add 37 = .ok (.iadd, 1) := by decide +kernel
theorem dX2_add_38 : decode cX2_add 38 = .ok (.putfield 15, 3) := by decide +kernel
theorem dX2_add_41 : decode cX2_add 41 = .ok (.iconst 1, 1) := by decide +kernel
theorem dX2_add_42 : decode cX2_add 42 = .ok (.ireturn, 1) := by decide +kernel
theorem dX2_signAt_0 : decode cX2_signAt 0 = .ok (.iload_n 1, 1) := by decide +kernel
theorem dX2_signAt_1 : decode cX2_signAt 1 = .ok (.ifCond .lt 29, 3) := by decide +kernel
theorem dX2_signAt_4 : decode cX2_signAt 4 = .ok (.iload_n 1, 1) := by decide +kernel
theorem dX2_signAt_5 : decode cX2_signAt 5 = .ok (.aload_n 0, 1) := by decide +kernel
theorem dX2_signAt_6 : decode cX2_signAt 6 = .ok (.getfield 15, 3) := by decide +kernel
theorem dX2_signAt_9 : decode cX2_signAt 9 = .ok (.if_icmp .ge 21, 3) := by decide +kernel
theorem dX2_signAt_12 : decode cX2_signAt 12 = .ok (.iload_n 1, 1) := by decide +kernel
theorem dX2_signAt_13 : decode cX2_signAt 13 = .ok (.aload_n 0, 1) := by decide +kernel
theorem dX2_signAt_14 : decode cX2_signAt 14 = .ok (.getfield 9, 3) := by decide +kernel
theorem dX2_signAt_17 : decode cX2_signAt 17 = .ok (.arraylength, 1) := by decide +kernel
theorem dX2_signAt_18 : decode cX2_signAt 18 = .ok (.if_icmp .ge 12, 3) := by decide +kernel
theorem dX2_signAt_21 : decode cX2_signAt 21 = .ok (.aload_n 0, 1) := by decide +kernel
theorem dX2_signAt_22 : decode cX2_signAt 22 = .ok (.getfield 9, 3) := by decide +kernel
theorem dX2_signAt_25 : decode cX2_signAt 25 = .ok (.iload_n 1, 1) := by decide +kernel
theorem dX2_signAt_26 : decode cX2_signAt 26 = .ok (.iaload, 1) := by decide +kernel
theorem dX2_signAt_27 : decode cX2_signAt 27 = .ok (.goto 4, 3) := by decide +kernel
theorem dX2_signAt_30 : decode cX2_signAt 30 = .ok (.iconst (-1), 1) := by decide +kernel
theorem dX2_signAt_31 : decode cX2_signAt 31 = .ok (.ireturn, 1) := by decide +kernel
theorem dX2_answer_0 : decode cX2_answer 0 = .ok (.iload_n 1, 1) := by decide +kernel
theorem dX2_answer_1 : decode cX2_answer 1 = .ok (.iconst (-1), 1) := by decide +kernel
theorem dX2_answer_2 : decode cX2_answer 2 = .ok (.if_icmp .ne 10, 3) := by decide +kernel
theorem dX2_answer_5 : decode cX2_answer 5 = .ok (.aload_n 0, 1) := by decide +kernel
theorem dX2_answer_6 : decode cX2_answer 6 = .ok (.getfield 15, 3) := by decide +kernel
theorem dX2_answer_9 : decode cX2_answer 9 = .ok (.goto 8, 3) := by decide +kernel
theorem dX2_answer_12 : decode cX2_answer 12 = .ok (.aload_n 0, 1) := by decide +kernel
theorem dX2_answer_13 : decode cX2_answer 13 = .ok (.iload_n 1, 1) := by decide +kernel
theorem dX2_answer_14 : decode cX2_answer 14 = .ok (.invokevirtual 19, 3) := by decide +kernel
theorem dX2_answer_17 : decode cX2_answer 17 = .ok (.ireturn, 1) := by decide +kernel
theorem dX3_init_0 : decode cX3_init 0 = .ok (.aload_n 0, 1) := by decide +kernel
theorem dX3_init_1 : decode cX3_init 1 = .ok (.invokespecial 3, 3) := by decide +kernel
theorem dX3_init_4 : decode cX3_init 4 = .ok (.aload_n 0, 1) := by decide +kernel
theorem dX3_init_5 : decode cX3_init 5 = .ok (.sipush 445, 3) := by decide +kernel
theorem dX3_init_8 : decode cX3_init 8 = .ok (.newarray .int, 2) := by decide +kernel
theorem dX3_init_10 : decode cX3_init 10 = .ok (.putfield 9, 3) := by decide +kernel
theorem dX3_init_13 : decode cX3_init 13 = .ok (.return_, 1) := by decide +kernel
theorem dX3_add_0 : decode cX3_add 0 = .ok (.aload_n 0, 1) := by decide +kernel
theorem dX3_add_1 : decode cX3_add 1 = .ok (.getfield 15, 3) := by decide +kernel
theorem dX3_add_4 : decode cX3_add 4 = .ok (.ifCond .lt 35, 3) := by decide +kernel
theorem dX3_add_7 : decode cX3_add 7 = .ok (.aload_n 0, 1) := by decide +kernel
theorem dX3_add_8 : decode cX3_add 8 = .ok (.getfield 15, 3) := by decide +kernel
theorem dX3_add_11 : decode cX3_add 11 = .ok (.aload_n 0, 1) := by decide +kernel
theorem dX3_add_12 : decode cX3_add 12 = .ok (.getfield 9, 3) := by decide +kernel
theorem dX3_add_15 : decode cX3_add 15 = .ok (.arraylength, 1) := by decide +kernel
theorem dX3_add_16 : decode cX3_add 16 = .ok (.if_icmp .ge 23, 3) := by decide +kernel
theorem dX3_add_19 : decode cX3_add 19 = .ok (.aload_n 0, 1) := by decide +kernel
theorem dX3_add_20 : decode cX3_add 20 = .ok (.getfield 9, 3) := by decide +kernel
theorem dX3_add_23 : decode cX3_add 23 = .ok (.aload_n 0, 1) := by decide +kernel
theorem dX3_add_24 : decode cX3_add 24 = .ok (.getfield 15, 3) := by decide +kernel
theorem dX3_add_27 : decode cX3_add 27 = .ok (.iload_n 1, 1) := by decide +kernel
theorem dX3_add_28 : decode cX3_add 28 = .ok (.iastore, 1) := by decide +kernel
theorem dX3_add_29 : decode cX3_add 29 = .ok (.aload_n 0, 1) := by decide +kernel
theorem dX3_add_30 : decode cX3_add 30 = .ok (.dup, 1) := by decide +kernel
theorem dX3_add_31 : decode cX3_add 31 = .ok (.getfield 15, 3) := by decide +kernel
theorem dX3_add_34 : decode cX3_add 34 = .ok (.iconst 1, 1) := by decide +kernel
theorem dX3_add_35 : decode cX3_add 35 = .ok (.iadd, 1) := by decide +kernel
theorem dX3_add_36 : decode cX3_add 36 = .ok (.putfield 15, 3) := by decide +kernel
theorem dX3_add_39 : decode cX3_add 39 = .ok (.return_, 1) := by decide +kernel
theorem dX3_moveAt_0 : decode cX3_moveAt 0 = .ok (.iload_n 1, 1) := by decide +kernel
theorem dX3_moveAt_1 : decode cX3_moveAt 1 = .ok (.ifCond .lt 29, 3) := by decide +kernel
theorem dX3_moveAt_4 : decode cX3_moveAt 4 = .ok (.iload_n 1, 1) := by decide +kernel
theorem dX3_moveAt_5 : decode cX3_moveAt 5 = .ok (.aload_n 0, 1) := by decide +kernel
theorem dX3_moveAt_6 : decode cX3_moveAt 6 = .ok (.getfield 15, 3) := by decide +kernel
theorem dX3_moveAt_9 : decode cX3_moveAt 9 = .ok (.if_icmp .ge 21, 3) := by decide +kernel
theorem dX3_moveAt_12 : decode cX3_moveAt 12 = .ok (.iload_n 1, 1) := by decide +kernel
theorem dX3_moveAt_13 : decode cX3_moveAt 13 = .ok (.aload_n 0, 1) := by decide +kernel
theorem dX3_moveAt_14 : decode cX3_moveAt 14 = .ok (.getfield 9, 3) := by decide +kernel
theorem dX3_moveAt_17 : decode cX3_moveAt 17 = .ok (.arraylength, 1) := by decide +kernel
theorem dX3_moveAt_18 : decode cX3_moveAt 18 = .ok (.if_icmp .ge 12, 3) := by decide +kernel
theorem dX3_moveAt_21 : decode cX3_moveAt 21 = .ok (.aload_n 0, 1) := by decide +kernel
theorem dX3_moveAt_22 : decode cX3_moveAt 22 = .ok (.getfield 9, 3) := by decide +kernel
theorem dX3_moveAt_25 : decode cX3_moveAt 25 = .ok (.iload_n 1, 1) := by decide +kernel
theorem dX3_moveAt_26 : decode cX3_moveAt 26 = .ok (.iaload, 1) := by decide +kernel
theorem dX3_moveAt_27 : decode cX3_moveAt 27 = .ok (.goto 4, 3) := by decide +kernel
theorem dX3_moveAt_30 : decode cX3_moveAt 30 = .ok (.iconst (-1), 1) := by decide +kernel
theorem dX3_moveAt_31 : decode cX3_moveAt 31 = .ok (.ireturn, 1) := by decide +kernel
theorem dX4_init_0 : decode cX4_init 0 = .ok (.aload_n 0, 1) := by decide +kernel
theorem dX4_init_1 : decode cX4_init 1 = .ok (.invokespecial 3, 3) := by decide +kernel
theorem dX4_init_4 : decode cX4_init 4 = .ok (.aload_n 0, 1) := by decide +kernel
theorem dX4_init_5 : decode cX4_init 5 = .ok (.bipush 6, 2) := by decide +kernel
theorem dX4_init_7 : decode cX4_init 7 = .ok (.newarray .int, 2) := by decide +kernel
theorem dX4_init_9 : decode cX4_init 9 = .ok (.putfield 9, 3) := by decide +kernel
theorem dX4_init_12 : decode cX4_init 12 = .ok (.aload_n 0, 1) := by decide +kernel
theorem dX4_init_13 : decode cX4_init 13 = .ok (.bipush 6, 2) := by decide +kernel
theorem dX4_init_15 : decode cX4_init 15 = .ok (.newarray .int, 2) := by decide +kernel
theorem dX4_init_17 : decode cX4_init 17 = .ok (.putfield 15, 3) := by decide +kernel
theorem dX4_init_20 : decode cX4_init 20 = .ok (.aload_n 0, 1) := by decide +kernel
theorem dX4_init_21 : decode cX4_init 21 = .ok (.bipush 6, 2) := by decide +kernel
theorem dX4_init_23 : decode cX4_init 23 = .ok (.newarray .int, 2) := by decide +kernel
theorem dX4_init_25 : decode cX4_init 25 = .ok (.putfield 18, 3) := by decide +kernel
theorem dX4_init_28 : decode cX4_init 28 = .ok (.return_, 1) := by decide +kernel
theorem dX4_read_0 : decode cX4_read 0 = .ok (.iconst 0, 1) := by decide +kernel
theorem dX4_read_1 : decode cX4_read 1 = .ok (.istore_n 2, 1) := by decide +kernel
theorem dX4_read_2 : decode cX4_read 2 = .ok (.iconst 0, 1) := by decide +kernel
theorem dX4_read_3 : decode cX4_read 3 = .ok (.istore_n 3, 1) := by decide +kernel
theorem dX4_read_4 : decode cX4_read 4 = .ok (.iload_n 3, 1) := by decide +kernel
theorem dX4_read_5 : decode cX4_read 5 = .ok (.bipush 7, 2) := by decide +kernel
theorem dX4_read_7 : decode cX4_read 7 = .ok (.if_icmp .ge 63, 3) := by decide +kernel
theorem dX4_read_10 : decode cX4_read 10 = .ok (.iload_n 3, 1) := by decide +kernel
theorem dX4_read_11 : decode cX4_read 11 = .ok (.invokestatic 21, 3) := by decide +kernel
theorem dX4_read_14 : decode cX4_read 14 = .ok (.astore 4, 2) := by decide +kernel
theorem dX4_read_16 : decode cX4_read 16 = .ok (.aload_n 1, 1) := by decide +kernel
theorem dX4_read_17 : decode cX4_read 17 = .ok (.aload 4, 2) := by decide +kernel
theorem dX4_read_19 : decode cX4_read 19 = .ok (.invokestatic 25, 3) := by decide +kernel
theorem dX4_read_22 : decode cX4_read 22 = .ok (.istore 5, 2) := by decide +kernel
theorem dX4_read_24 : decode cX4_read 24 = .ok (.iload 5, 2) := by decide +kernel
theorem dX4_read_26 : decode cX4_read 26 = .ok (.aload_n 1, 1) := by decide +kernel
theorem dX4_read_27 : decode cX4_read 27 = .ok (.getfield 29, 3) := by decide +kernel
theorem dX4_read_30 : decode cX4_read 30 = .ok (.if_icmp .ne 27, 3) := by decide +kernel
theorem dX4_read_33 : decode cX4_read 33 = .ok (.iload 5, 2) := by decide +kernel
theorem dX4_read_35 : decode cX4_read 35 = .ok (.aload 4, 2) := by decide +kernel
theorem dX4_read_37 : decode cX4_read 37 = .ok (.invokevirtual 35, 3) := by decide +kernel
theorem dX4_read_40 : decode cX4_read 40 = .ok (.if_icmp .ne 17, 3) := by decide +kernel
theorem dX4_read_43 : decode cX4_read 43 = .ok (.aload_n 1, 1) := by decide +kernel
theorem dX4_read_44 : decode cX4_read 44 = .ok (.iload_n 3, 1) := by decide +kernel
theorem dX4_read_45 : decode cX4_read 45 = .ok (.invokestatic 40, 3) := by decide +kernel
theorem dX4_read_48 : decode cX4_read 48 = .ok (.invokestatic 43, 3) := by decide +kernel
theorem dX4_read_51 : decode cX4_read 51 = .ok (.aload_n 0, 1) := by decide +kernel
theorem dX4_read_52 : decode cX4_read 52 = .ok (.aload_n 1, 1) := by decide +kernel
theorem dX4_read_53 : decode cX4_read 53 = .ok (.invokevirtual 47, 3) := by decide +kernel
theorem dX4_read_56 : decode cX4_read 56 = .ok (.ireturn, 1) := by decide +kernel
theorem dX4_read_57 : decode cX4_read 57 = .ok (.iload_n 2, 1) := by decide +kernel
theorem dX4_read_58 : decode cX4_read 58 = .ok (.iload 5, 2) := by decide +kernel
theorem dX4_read_60 : decode cX4_read 60 = .ok (.invokestatic 51, 3) := by decide +kernel
theorem dX4_read_63 : decode cX4_read 63 = .ok (.istore_n 2, 1) := by decide +kernel
theorem dX4_read_64 : decode cX4_read 64 = .ok (.iinc 3 1, 3) := by decide +kernel
theorem dX4_read_67 : decode cX4_read 67 = .ok (.goto (-63), 3) := by decide +kernel
theorem dX4_read_70 : decode cX4_read 70 = .ok (.aload_n 0, 1) := by decide +kernel
theorem dX4_read_71 : decode cX4_read 71 = .ok (.aload_n 1, 1) := by decide +kernel
theorem dX4_read_72 : decode cX4_read 72 = .ok (.invokevirtual 47, 3) := by decide +kernel
theorem dX4_read_75 : decode cX4_read 75 = .ok (.istore_n 3, 1) := by decide +kernel
theorem dX4_read_76 : decode cX4_read 76 = .ok (.iload_n 3, 1) := by decide +kernel
theorem dX4_read_77 : decode cX4_read 77 = .ok (.ifCond .ge 7, 3) := by decide +kernel
theorem dX4_read_80 : decode cX4_read 80 = .ok (.iload_n 3, 1) := by decide +kernel
theorem dX4_read_81 : decode cX4_read 81 = .ok (.goto 8, 3) := by decide +kernel
theorem dX4_read_84 : decode cX4_read 84 = .ok (.iload_n 3, 1) := by decide +kernel
theorem dX4_read_85 : decode cX4_read 85 = .ok (.iload_n 2, 1) := by decide +kernel
theorem dX4_read_86 : decode cX4_read 86 = .ok (.invokestatic 51, 3) := by decide +kernel
theorem dX4_read_89 : decode cX4_read 89 = .ok (.ireturn, 1) := by decide +kernel
theorem dX4_readParts_0 : decode cX4_readParts 0 = .ok (.aload_n 0, 1) := by decide +kernel
theorem dX4_readParts_1 : decode cX4_readParts 1 = .ok (.iconst 0, 1) := by decide +kernel
theorem dX4_readParts_2 : decode cX4_readParts 2 = .ok (.putfield 57, 3) := by decide +kernel
theorem dX4_readParts_5 : decode cX4_readParts 5 = .ok (.iconst 0, 1) := by decide +kernel
theorem dX4_readParts_6 : decode cX4_readParts 6 = .ok (.istore_n 2, 1) := by decide +kernel
theorem dX4_readParts_7 : decode cX4_readParts 7 = .ok (.iconst 0, 1) := by decide +kernel
theorem dX4_readParts_8 : decode cX4_readParts 8 = .ok (.istore_n 3, 1) := by decide +kernel
theorem dX4_readParts_9 : decode cX4_readParts 9 = .ok (.iconst 0, 1) := by decide +kernel
theorem dX4_readParts_10 : decode cX4_readParts 10 = .ok (.istore 4, 2) := by decide +kernel
theorem dX4_readParts_12 : decode cX4_readParts 12 = .ok (.iconst 0, 1) := by decide +kernel
theorem dX4_readParts_13 : decode cX4_readParts 13 = .ok (.istore 5, 2) := by decide +kernel
theorem dX4_readParts_15 : decode cX4_readParts 15 = .ok (.iload 5, 2) := by decide +kernel
theorem dX4_readParts_17 : decode cX4_readParts 17 = .ok (.aload_n 1, 1) := by decide +kernel
theorem dX4_readParts_18 : decode cX4_readParts 18 = .ok (.getfield 29, 3) := by decide +kernel
theorem dX4_readParts_21 : decode cX4_readParts 21 = .ok (.if_icmp .ge 173, 3) := by decide +kernel
theorem dX4_readParts_24 : decode cX4_readParts 24 = .ok (.aload_n 1, 1) := by decide +kernel
theorem dX4_readParts_25 : decode cX4_readParts 25 = .ok (.iload 5, 2) := by decide +kernel
theorem dX4_readParts_27 : decode cX4_readParts 27 = .ok (.invokevirtual 58, 3) := by decide +kernel
theorem dX4_readParts_30 : decode cX4_readParts 30 = .ok (.istore 6, 2) := by decide +kernel
theorem dX4_readParts_32 : decode cX4_readParts 32 = .ok (.iload 4, 2) := by decide +kernel
theorem dX4_readParts_34 : decode cX4_readParts 34 = .ok (.ifCond .eq 59, 3) := by decide +kernel
theorem dX4_readParts_37 : decode cX4_readParts 37 = .ok (.iload 6, 2) := by decide +kernel
theorem dX4_readParts_39 : decode cX4_readParts 39 = .ok (.bipush 48, 2) := by decide +kernel
theorem dX4_readParts_41 : decode cX4_readParts 41 = .ok (.if_icmp .eq 17, 3) := by decide +kernel
theorem dX4_readParts_44 : decode cX4_readParts 44 = .ok (.iload 6, 2) := by decide +kernel
theorem dX4_readParts_46 : decode cX4_readParts 46 = .ok (.bipush 50, 2) := by decide +kernel
theorem dX4_readParts_48 : decode cX4_readParts 48 = .ok (.if_icmp .lt 45, 3) := by decide +kernel
theorem dX4_readParts_51 : decode cX4_readParts 51 = .ok (.iload 6, 2) := by decide +kernel
theorem dX4_readParts_53 : decode cX4_readParts 53 = .ok (.bipush 53, 2) := by decide +kernel
theorem dX4_readParts_55 : decode cX4_readParts 55 = .ok (.if_icmp .gt 38, 3) := by decide +kernel
theorem dX4_readParts_58 : decode cX4_readParts 58 = .ok (.aload_n 0, 1) := by decide +kernel
theorem dX4_readParts_59 : decode cX4_readParts 59 = .ok (.getfield 18, 3) := by decide +kernel
theorem dX4_readParts_62 : decode cX4_readParts 62 = .ok (.aload_n 0, 1) := by decide +kernel
theorem dX4_readParts_63 : decode cX4_readParts 63 = .ok (.getfield 57, 3) := by decide +kernel
theorem dX4_readParts_66 : decode cX4_readParts 66 = .ok (.iconst 1, 1) := by decide +kernel
theorem dX4_readParts_67 : decode cX4_readParts 67 = .ok (.isub, 1) := by decide +kernel
theorem dX4_readParts_68 : decode cX4_readParts 68 = .ok (.iload 6, 2) := by decide +kernel
theorem dX4_readParts_70 : decode cX4_readParts 70 = .ok (.bipush 48, 2) := by decide +kernel
theorem dX4_readParts_72 : decode cX4_readParts 72 = .ok (.if_icmp .ne 7, 3) := by decide +kernel
theorem dX4_readParts_75 : decode cX4_readParts 75 = .ok (.iconst 5, 1) := by decide +kernel
theorem dX4_readParts_76 : decode cX4_readParts 76 = .ok (.goto 8, 3) := by decide +kernel
theorem dX4_readParts_79 : decode cX4_readParts 79 = .ok (.iload 6, 2) := by decide +kernel
theorem dX4_readParts_81 : decode cX4_readParts 81 = .ok (.bipush 48, 2) := by decide +kernel
theorem dX4_readParts_83 : decode cX4_readParts 83 = .ok (.isub, 1) := by decide +kernel
theorem dX4_readParts_84 : decode cX4_readParts 84 = .ok (.invokestatic 62, 3) := by decide +kernel
theorem dX4_readParts_87 : decode cX4_readParts 87 = .ok (.iconst 0, 1) := by decide +kernel
theorem dX4_readParts_88 : decode cX4_readParts 88 = .ok (.istore 4, 2) := by decide +kernel
theorem dX4_readParts_90 : decode cX4_readParts 90 = .ok (.goto 98, 3) := by decide +kernel
theorem dX4_readParts_93 : decode cX4_readParts 93 = .ok (.iload_n 3, 1) := by decide +kernel
theorem dX4_readParts_94 : decode cX4_readParts 94 = .ok (.ifCond .ne 15, 3) := by decide +kernel
theorem dX4_readParts_97 : decode cX4_readParts 97 = .ok (.aload_n 0, 1) := by decide +kernel
theorem dX4_readParts_98 : decode cX4_readParts 98 = .ok (.getfield 57, 3) := by decide +kernel
theorem dX4_readParts_101 : decode cX4_readParts 101 = .ok (.bipush 6, 2) := by decide +kernel
theorem dX4_readParts_103 : decode cX4_readParts 103 = .ok (.if_icmp .lt 6, 3) := by decide +kernel
theorem dX4_readParts_106 : decode cX4_readParts 106 = .ok (.iload 5, 2) := by decide +kernel
theorem dX4_readParts_108 : decode cX4_readParts 108 = .ok (.ireturn, 1) := by decide +kernel
theorem dX4_readParts_109 : decode cX4_readParts 109 = .ok (.ldc 66, 2) := by decide +kernel
theorem dX4_readParts_111 : decode cX4_readParts 111 = .ok (.iload 6, 2) := by decide +kernel
theorem dX4_readParts_113 : decode cX4_readParts 113 = .ok (.i2c, 1) := by decide +kernel
theorem dX4_readParts_114 : decode cX4_readParts 114 = .ok (.invokevirtual 68, 3) := by decide +kernel
theorem dX4_readParts_117 : decode cX4_readParts 117 = .ok (.istore 7, 2) := by decide +kernel
theorem dX4_readParts_119 : decode cX4_readParts 119 = .ok (.ldc 71, 2) := by decide +kernel
theorem dX4_readParts_121 : decode cX4_readParts 121 = .ok (.iload 6, 2) := by decide +kernel
theorem dX4_readParts_123 : decode cX4_readParts 123 = .ok (.i2c, 1) := by decide +kernel
theorem dX4_readParts_124 : decode cX4_readParts 124 = .ok (.invokevirtual 68, 3) := by decide +kernel
theorem dX4_readParts_127 : decode cX4_readParts 127 = .ok (.istore 8, 2) := by decide +kernel
theorem dX4_readParts_129 : decode cX4_readParts 129 = .ok (.iload 7, 2) := by decide +kernel
theorem dX4_readParts_131 : decode cX4_readParts 131 = .ok (.ifCond .ge 11, 3) := by decide +kernel
theorem dX4_readParts_134 : decode cX4_readParts 134 = .ok (.iload 8, 2) := by decide +kernel
theorem dX4_readParts_136 : decode cX4_readParts 136 = .ok (.ifCond .ge 6, 3) := by decide +kernel
theorem dX4_readParts_139 : decode cX4_readParts 139 = .ok (.iload 5, 2) := by decide +kernel
theorem dX4_readParts_141 : decode cX4_readParts 141 = .ok (.ireturn, 1) := by decide +kernel
theorem dX4_readParts_142 : decode cX4_readParts 142 = .ok (.iload 7, 2) := by decide +kernel
theorem dX4_readParts_144 : decode cX4_readParts 144 = .ok (.ifCond .lt 13, 3) := by decide +kernel
theorem dX4_readParts_147 : decode cX4_readParts 147 = .ok (.iload_n 2, 1) := by decide +kernel
theorem dX4_readParts_148 : decode cX4_readParts 148 = .ok (.iconst 1, 1) := by decide +kernel
theorem dX4_readParts_149 : decode cX4_readParts 149 = .ok (.iload 7, 2) := by decide +kernel
theorem dX4_readParts_151 : decode cX4_readParts 151 = .ok (.ishl, 1) := by decide +kernel
theorem dX4_readParts_152 : decode cX4_readParts 152 = .ok (.ior, 1) := by decide +kernel
theorem dX4_readParts_153 : decode cX4_readParts 153 = .ok (.istore_n 2, 1) := by decide +kernel
theorem dX4_readParts_154 : decode cX4_readParts 154 = .ok (.goto 12, 3) := by decide +kernel
theorem dX4_readParts_157 : decode cX4_readParts 157 = .ok (.aload_n 0, 1) := by decide +kernel
theorem dX4_readParts_158 : decode cX4_readParts 158 = .ok (.iload 8, 2) := by decide +kernel
theorem dX4_readParts_160 : decode cX4_readParts 160 = .ok (.iload_n 2, 1) := by decide +kernel
theorem dX4_readParts_161 : decode cX4_readParts 161 = .ok (.invokevirtual 73, 3) := by decide +kernel
theorem dX4_readParts_164 : decode cX4_readParts 164 = .ok (.iconst 0, 1) := by decide +kernel
theorem dX4_readParts_165 : decode cX4_readParts 165 = .ok (.istore_n 2, 1) := by decide +kernel
theorem dX4_readParts_166 : decode cX4_readParts 166 = .ok (.iload 7, 2) := by decide +kernel
theorem dX4_readParts_168 : decode cX4_readParts 168 = .ok (.ifCond .lt 7, 3) := by decide +kernel
theorem dX4_readParts_171 : decode cX4_readParts 171 = .ok (.iconst 1, 1) := by decide +kernel
theorem dX4_readParts_172 : decode cX4_readParts 172 = .ok (.goto 4, 3) := by decide +kernel
theorem dX4_readParts_175 : decode cX4_readParts 175 = .ok (.iconst 0, 1) := by decide +kernel
theorem dX4_readParts_176 : decode cX4_readParts 176 = .ok (.istore_n 3, 1) := by decide +kernel
theorem dX4_readParts_177 : decode cX4_readParts 177 = .ok (.iload_n 3, 1) := by decide +kernel
theorem dX4_readParts_178 : decode cX4_readParts 178 = .ok (.ifCond .ne 7, 3) := by decide +kernel
theorem dX4_readParts_181 : decode cX4_readParts 181 = .ok (.iconst 1, 1) := by decide +kernel
theorem dX4_readParts_182 : decode cX4_readParts 182 = .ok (.goto 4, 3) := by decide +kernel
theorem dX4_readParts_185 : decode cX4_readParts 185 = .ok (.iconst 0, 1) := by decide +kernel
theorem dX4_readParts_186 : decode cX4_readParts 186 = .ok (.istore 4, 2) := by decide +kernel
theorem dX4_readParts_188 : decode cX4_readParts 188 = .ok (.iinc 5 1, 3) := by decide +kernel
theorem dX4_readParts_191 : decode cX4_readParts 191 = .ok (.goto (-176), 3) := by decide +kernel
theorem dX4_readParts_194 : decode cX4_readParts 194 = .ok (.iload_n 3, 1) := by decide +kernel
theorem dX4_readParts_195 : decode cX4_readParts 195 = .ok (.ifCond .ne 10, 3) := by decide +kernel
theorem dX4_readParts_198 : decode cX4_readParts 198 = .ok (.aload_n 0, 1) := by decide +kernel
theorem dX4_readParts_199 : decode cX4_readParts 199 = .ok (.getfield 57, 3) := by decide +kernel
theorem dX4_readParts_202 : decode cX4_readParts 202 = .ok (.ifCond .ne 10, 3) := by decide +kernel
theorem dX4_readParts_205 : decode cX4_readParts 205 = .ok (.aload_n 1, 1) := by decide +kernel
theorem dX4_readParts_206 : decode cX4_readParts 206 = .ok (.getfield 29, 3) := by decide +kernel
theorem dX4_readParts_209 : decode cX4_readParts 209 = .ok (.goto 4, 3) := by decide +kernel
theorem dX4_readParts_212 : decode cX4_readParts 212 = .ok (.iconst (-1), 1) := by decide +kernel
theorem dX4_readParts_213 : decode cX4_readParts 213 = .ok (.ireturn, 1) := by decide +kernel
theorem dX4_addPart_0 : decode cX4_addPart 0 = .ok (.aload_n 0, 1) := by decide +kernel
theorem dX4_addPart_1 : decode cX4_addPart 1 = .ok (.getfield 9, 3) := by decide +kernel
theorem dX4_addPart_4 : decode cX4_addPart 4 = .ok (.aload_n 0, 1) := by decide +kernel
theorem dX4_addPart_5 : decode cX4_addPart 5 = .ok (.getfield 57, 3) := by decide +kernel
theorem dX4_addPart_8 : decode cX4_addPart 8 = .ok (.iload_n 1, 1) := by decide +kernel
theorem dX4_addPart_9 : decode cX4_addPart 9 = .ok (.invokestatic 62, 3) := by decide +kernel
theorem dX4_addPart_12 : decode cX4_addPart 12 = .ok (.aload_n 0, 1) := by decide +kernel
theorem dX4_addPart_13 : decode cX4_addPart 13 = .ok (.getfield 15, 3) := by decide +kernel
theorem dX4_addPart_16 : decode cX4_addPart 16 = .ok (.aload_n 0, 1) := by decide +kernel
theorem dX4_addPart_17 : decode cX4_addPart 17 = .ok (.getfield 57, 3) := by decide +kernel
theorem dX4_addPart_20 : decode cX4_addPart 20 = .ok (.iload_n 2, 1) := by decide +kernel
theorem dX4_addPart_21 : decode cX4_addPart 21 = .ok (.iconst 3, 1) := by decide +kernel
theorem dX4_addPart_22 : decode cX4_addPart 22 = .ok (.iand, 1) := by decide +kernel
theorem dX4_addPart_23 : decode cX4_addPart 23 = .ok (.ifCond .ne 11, 3) := by decide +kernel
theorem dX4_addPart_26 : decode cX4_addPart 26 = .ok (.iload_n 2, 1) := by decide +kernel
theorem dX4_addPart_27 : decode cX4_addPart 27 = .ok (.iconst 1, 1) := by decide +kernel
theorem dX4_addPart_28 : decode cX4_addPart 28 = .ok (.ior, 1) := by decide +kernel
theorem dX4_addPart_29 : decode cX4_addPart 29 = .ok (.iconst 2, 1) := by decide +kernel
theorem dX4_addPart_30 : decode cX4_addPart 30 = .ok (.ior, 1) := by decide +kernel
theorem dX4_addPart_31 : decode cX4_addPart 31 = .ok (.goto 4, 3) := by decide +kernel
theorem dX4_addPart_34 : decode cX4_addPart 34 = .ok (.iload_n 2, 1) := by decide +kernel
theorem dX4_addPart_35 : decode cX4_addPart 35 = .ok (.invokestatic 62, 3) := by decide +kernel
theorem dX4_addPart_38 : decode cX4_addPart 38 = .ok (.aload_n 0, 1) := by decide +kernel
theorem dX4_addPart_39 : decode cX4_addPart 39 = .ok (.getfield 18, 3) := by decide +kernel
theorem dX4_addPart_42 : decode cX4_addPart 42 = .ok (.aload_n 0, 1) := by decide +kernel
theorem dX4_addPart_43 : decode cX4_addPart 43 = .ok (.getfield 57, 3) := by decide +kernel
theorem dX4_addPart_46 : decode cX4_addPart 46 = .ok (.iconst 1, 1) := by decide +kernel
theorem dX4_addPart_47 : decode cX4_addPart 47 = .ok (.invokestatic 62, 3) := by decide +kernel
theorem dX4_addPart_50 : decode cX4_addPart 50 = .ok (.aload_n 0, 1) := by decide +kernel
theorem dX4_addPart_51 : decode cX4_addPart 51 = .ok (.dup, 1) := by decide +kernel
theorem dX4_addPart_52 : decode cX4_addPart 52 = .ok (.getfield 57, 3) := by decide +kernel
theorem dX4_addPart_55 : decode cX4_addPart 55 = .ok (.iconst 1, 1) := by decide +kernel
theorem dX4_addPart_56 : decode cX4_addPart 56 = .ok (.iadd, 1) := by decide +kernel
theorem dX4_addPart_57 : decode cX4_addPart 57 = .ok (.putfield 57, 3) := by decide +kernel
theorem dX4_addPart_60 : decode cX4_addPart 60 = .ok (.return_, 1) := by decide +kernel
theorem dX4_sameSigns_0 : decode cX4_sameSigns 0 = .ok (.iconst 0, 1) := by decide +kernel
theorem dX4_sameSigns_1 : decode cX4_sameSigns 1 = .ok (.istore_n 2, 1) := by decide +kernel
theorem dX4_sameSigns_2 : decode cX4_sameSigns 2 = .ok (.iload_n 2, 1) := by decide +kernel
theorem dX4_sameSigns_3 : decode cX4_sameSigns 3 = .ok (.aload_n 0, 1) := by decide +kernel
theorem dX4_sameSigns_4 : decode cX4_sameSigns 4 = .ok (.getfield 29, 3) := by decide +kernel
theorem dX4_sameSigns_7 : decode cX4_sameSigns 7 = .ok (.if_icmp .ge 30, 3) := by decide +kernel
theorem dX4_sameSigns_10 : decode cX4_sameSigns 10 = .ok (.iload_n 2, 1) := by decide +kernel
theorem dX4_sameSigns_11 : decode cX4_sameSigns 11 = .ok (.aload_n 1, 1) := by decide +kernel
theorem dX4_sameSigns_12 : decode cX4_sameSigns 12 = .ok (.invokevirtual 35, 3) := by decide +kernel
theorem dX4_sameSigns_15 : decode cX4_sameSigns 15 = .ok (.if_icmp .ge 22, 3) := by decide +kernel
theorem dX4_sameSigns_18 : decode cX4_sameSigns 18 = .ok (.aload_n 0, 1) := by decide +kernel
theorem dX4_sameSigns_19 : decode cX4_sameSigns 19 = .ok (.iload_n 2, 1) := by decide +kernel
theorem dX4_sameSigns_20 : decode cX4_sameSigns 20 = .ok (.invokevirtual 58, 3) := by decide +kernel
theorem dX4_sameSigns_23 : decode cX4_sameSigns 23 = .ok (.aload_n 1, 1) := by decide +kernel
theorem dX4_sameSigns_24 : decode cX4_sameSigns 24 = .ok (.iload_n 2, 1) := by decide +kernel
theorem dX4_sameSigns_25 : decode cX4_sameSigns 25 = .ok (.invokevirtual 77, 3) := by decide +kernel
theorem dX4_sameSigns_28 : decode cX4_sameSigns 28 = .ok (.if_icmp .ne 9, 3) := by decide +kernel
theorem dX4_sameSigns_31 : decode cX4_sameSigns 31 = .ok (.iinc 2 1, 3) := by decide +kernel
theorem dX4_sameSigns_34 : decode cX4_sameSigns 34 = .ok (.goto (-32), 3) := by decide +kernel
theorem dX4_sameSigns_37 : decode cX4_sameSigns 37 = .ok (.iload_n 2, 1) := by decide +kernel
theorem dX4_sameSigns_38 : decode cX4_sameSigns 38 = .ok (.ireturn, 1) := by decide +kernel
theorem dX4_replace_0 : decode cX4_replace 0 = .ok (.aload_n 0, 1) := by decide +kernel
theorem dX4_replace_1 : decode cX4_replace 1 = .ok (.iconst 0, 1) := by decide +kernel
theorem dX4_replace_2 : decode cX4_replace 2 = .ok (.putfield 29, 3) := by decide +kernel
theorem dX4_replace_5 : decode cX4_replace 5 = .ok (.iconst 0, 1) := by decide +kernel
theorem dX4_replace_6 : decode cX4_replace 6 = .ok (.istore_n 2, 1) := by decide +kernel
theorem dX4_replace_7 : decode cX4_replace 7 = .ok (.iload_n 2, 1) := by decide +kernel
theorem dX4_replace_8 : decode cX4_replace 8 = .ok (.aload_n 1, 1) := by decide +kernel
theorem dX4_replace_9 : decode cX4_replace 9 = .ok (.invokevirtual 35, 3) := by decide +kernel
theorem dX4_replace_12 : decode cX4_replace 12 = .ok (.if_icmp .ge 19, 3) := by decide +kernel
theorem dX4_replace_15 : decode cX4_replace 15 = .ok (.aload_n 0, 1) := by decide +kernel
theorem dX4_replace_16 : decode cX4_replace 16 = .ok (.aload_n 1, 1) := by decide +kernel
theorem dX4_replace_17 : decode cX4_replace 17 = .ok (.iload_n 2, 1) := by decide +kernel
theorem dX4_replace_18 : decode cX4_replace 18 = .ok (.invokevirtual 77, 3) := by decide +kernel
theorem dX4_replace_21 : decode cX4_replace 21 = .ok (.invokevirtual 81, 3) := by decide +kernel
theorem dX4_replace_24 : decode cX4_replace 24 = .ok (.pop, 1) := by decide +kernel
theorem dX4_replace_25 : decode cX4_replace 25 = .ok (.iinc 2 1, 3) := by decide +kernel
theorem dX4_replace_28 : decode cX4_replace 28 = .ok (.goto (-21), 3) := by decide +kernel
theorem dX4_replace_31 : decode cX4_replace 31 = .ok (.return_, 1) := by decide +kernel
theorem dX4_wordOf_0 : decode cX4_wordOf 0 = .ok (.iload_n 0, 1) := by decide +kernel
theorem dX4_wordOf_1 : decode cX4_wordOf 1 = .ok (.tableswitch 57 0 5 #[39, 42, 45, 48, 51, 54], 39) := by decide +kernel
theorem dX4_wordOf_40 : decode cX4_wordOf 40 = .ok (.ldc 85, 2) := by decide +kernel
theorem dX4_wordOf_42 : decode cX4_wordOf 42 = .ok (.areturn, 1) := by decide +kernel
theorem dX4_wordOf_43 : decode cX4_wordOf 43 = .ok (.ldc 87, 2) := by decide +kernel
theorem dX4_wordOf_45 : decode cX4_wordOf 45 = .ok (.areturn, 1) := by decide +kernel
theorem dX4_wordOf_46 : decode cX4_wordOf 46 = .ok (.ldc 89, 2) := by decide +kernel
theorem dX4_wordOf_48 : decode cX4_wordOf 48 = .ok (.areturn, 1) := by decide +kernel
theorem dX4_wordOf_49 : decode cX4_wordOf 49 = .ok (.ldc 91, 2) := by decide +kernel
theorem dX4_wordOf_51 : decode cX4_wordOf 51 = .ok (.areturn, 1) := by decide +kernel
theorem dX4_wordOf_52 : decode cX4_wordOf 52 = .ok (.ldc 93, 2) := by decide +kernel
theorem dX4_wordOf_54 : decode cX4_wordOf 54 = .ok (.areturn, 1) := by decide +kernel
theorem dX4_wordOf_55 : decode cX4_wordOf 55 = .ok (.ldc 95, 2) := by decide +kernel
theorem dX4_wordOf_57 : decode cX4_wordOf 57 = .ok (.areturn, 1) := by decide +kernel
theorem dX4_wordOf_58 : decode cX4_wordOf 58 = .ok (.ldc 97, 2) := by decide +kernel
theorem dX4_wordOf_60 : decode cX4_wordOf 60 = .ok (.areturn, 1) := by decide +kernel
theorem dX4_meaningOf_0 : decode cX4_meaningOf 0 = .ok (.iload_n 0, 1) := by decide +kernel
theorem dX4_meaningOf_1 : decode cX4_meaningOf 1 = .ok (.tableswitch 57 0 5 #[39, 42, 45, 48, 51, 54], 39) := by decide +kernel
theorem dX4_meaningOf_40 : decode cX4_meaningOf 40 = .ok (.ldc 99, 2) := by decide +kernel
theorem dX4_meaningOf_42 : decode cX4_meaningOf 42 = .ok (.areturn, 1) := by decide +kernel
theorem dX4_meaningOf_43 : decode cX4_meaningOf 43 = .ok (.ldc 101, 2) := by decide +kernel
theorem dX4_meaningOf_45 : decode cX4_meaningOf 45 = .ok (.areturn, 1) := by decide +kernel
theorem dX4_meaningOf_46 : decode cX4_meaningOf 46 = .ok (.ldc 103, 2) := by decide +kernel
theorem dX4_meaningOf_48 : decode cX4_meaningOf 48 = .ok (.areturn, 1) := by decide +kernel
theorem dX4_meaningOf_49 : decode cX4_meaningOf 49 = .ok (.ldc 105, 2) := by decide +kernel
theorem dX4_meaningOf_51 : decode cX4_meaningOf 51 = .ok (.areturn, 1) := by decide +kernel
theorem dX4_meaningOf_52 : decode cX4_meaningOf 52 = .ok (.ldc 107, 2) := by decide +kernel
theorem dX4_meaningOf_54 : decode cX4_meaningOf 54 = .ok (.areturn, 1) := by decide +kernel
theorem dX4_meaningOf_55 : decode cX4_meaningOf 55 = .ok (.ldc 109, 2) := by decide +kernel
theorem dX4_meaningOf_57 : decode cX4_meaningOf 57 = .ok (.areturn, 1) := by decide +kernel
theorem dX4_meaningOf_58 : decode cX4_meaningOf 58 = .ok (.ldc 111, 2) := by decide +kernel
theorem dX4_meaningOf_60 : decode cX4_meaningOf 60 = .ok (.areturn, 1) := by decide +kernel
theorem dX5_init_0 : decode cX5_init 0 = .ok (.aload_n 0, 1) := by decide +kernel
theorem dX5_init_1 : decode cX5_init 1 = .ok (.invokespecial 3, 3) := by decide +kernel
theorem dX5_init_4 : decode cX5_init 4 = .ok (.aload_n 0, 1) := by decide +kernel
theorem dX5_init_5 : decode cX5_init 5 = .ok (.aload_n 1, 1) := by decide +kernel
theorem dX5_init_6 : decode cX5_init 6 = .ok (.putfield 9, 3) := by decide +kernel
theorem dX5_init_9 : decode cX5_init 9 = .ok (.return_, 1) := by decide +kernel
theorem dX5_targets_0 : decode cX5_targets 0 = .ok (.aload_n 0, 1) := by decide +kernel
theorem dX5_targets_1 : decode cX5_targets 1 = .ok (.aload_n 1, 1) := by decide +kernel
theorem dX5_targets_2 : decode cX5_targets 2 = .ok (.iload_n 2, 1) := by decide +kernel
theorem dX5_targets_3 : decode cX5_targets 3 = .ok (.aload_n 1, 1) := by decide +kernel
theorem dX5_targets_4 : decode cX5_targets 4 = .ok (.getfield 15, 3) := by decide +kernel
theorem dX5_targets_7 : decode cX5_targets 7 = .ok (.aload_n 1, 1) := by decide +kernel
theorem dX5_targets_8 : decode cX5_targets 8 = .ok (.getfield 21, 3) := by decide +kernel
theorem dX5_targets_11 : decode cX5_targets 11 = .ok (.lor, 1) := by decide +kernel
theorem dX5_targets_12 : decode cX5_targets 12 = .ok (.ldc2_w 24, 3) := by decide +kernel
theorem dX5_targets_15 : decode cX5_targets 15 = .ok (.lxor, 1) := by decide +kernel
theorem dX5_targets_16 : decode cX5_targets 16 = .ok (.aload_n 1, 1) := by decide +kernel
theorem dX5_targets_17 : decode cX5_targets 17 = .ok (.iconst 1, 1) := by decide +kernel
theorem dX5_targets_18 : decode cX5_targets 18 = .ok (.aload_n 1, 1) := by decide +kernel
theorem dX5_targets_19 : decode cX5_targets 19 = .ok (.iload_n 2, 1) := by decide +kernel
theorem dX5_targets_20 : decode cX5_targets 20 = .ok (.invokevirtual 26, 3) := by decide +kernel
theorem dX5_targets_23 : decode cX5_targets 23 = .ok (.invokestatic 30, 3) := by decide +kernel
theorem dX5_targets_26 : decode cX5_targets 26 = .ok (.isub, 1) := by decide +kernel
theorem dX5_targets_27 : decode cX5_targets 27 = .ok (.invokevirtual 33, 3) := by decide +kernel
theorem dX5_targets_30 : decode cX5_targets 30 = .ok (.invokevirtual 37, 3) := by decide +kernel
theorem dX5_targets_33 : decode cX5_targets 33 = .ok (.lreturn, 1) := by decide +kernel
theorem dX5_ends_0 : decode cX5_ends 0 = .ok (.aload_n 1, 1) := by decide +kernel
theorem dX5_ends_1 : decode cX5_ends 1 = .ok (.iload_n 2, 1) := by decide +kernel
theorem dX5_ends_2 : decode cX5_ends 2 = .ok (.invokevirtual 26, 3) := by decide +kernel
theorem dX5_ends_5 : decode cX5_ends 5 = .ok (.istore 7, 2) := by decide +kernel
theorem dX5_ends_7 : decode cX5_ends 7 = .ok (.aload_n 1, 1) := by decide +kernel
theorem dX5_ends_8 : decode cX5_ends 8 = .ok (.iload_n 2, 1) := by decide +kernel
theorem dX5_ends_9 : decode cX5_ends 9 = .ok (.invokevirtual 41, 3) := by decide +kernel
theorem dX5_ends_12 : decode cX5_ends 12 = .ok (.istore 8, 2) := by decide +kernel
theorem dX5_ends_14 : decode cX5_ends 14 = .ok (.aload_n 1, 1) := by decide +kernel
theorem dX5_ends_15 : decode cX5_ends 15 = .ok (.iload_n 2, 1) := by decide +kernel
theorem dX5_ends_16 : decode cX5_ends 16 = .ok (.invokevirtual 44, 3) := by decide +kernel
theorem dX5_ends_19 : decode cX5_ends 19 = .ok (.istore 9, 2) := by decide +kernel
theorem dX5_ends_21 : decode cX5_ends 21 = .ok (.iload 7, 2) := by decide +kernel
theorem dX5_ends_23 : decode cX5_ends 23 = .ok (.invokestatic 30, 3) := by decide +kernel
theorem dX5_ends_26 : decode cX5_ends 26 = .ok (.ifCond .ne 7, 3) := by decide +kernel
theorem dX5_ends_29 : decode cX5_ends 29 = .ok (.iconst 1, 1) := by decide +kernel
theorem dX5_ends_30 : decode cX5_ends 30 = .ok (.goto 4, 3) := by decide +kernel
theorem dX5_ends_33 : decode cX5_ends 33 = .ok (.iconst (-1), 1) := by decide +kernel
theorem dX5_ends_34 : decode cX5_ends 34 = .ok (.istore 10, 2) := by decide +kernel
theorem dX5_ends_36 : decode cX5_ends 36 = .ok (.iload 7, 2) := by decide +kernel
theorem dX5_ends_38 : decode cX5_ends 38 = .ok (.invokestatic 47, 3) := by decide +kernel
theorem dX5_ends_41 : decode cX5_ends 41 = .ok (.bipush 6, 2) := by decide +kernel
theorem dX5_ends_43 : decode cX5_ends 43 = .ok (.imul, 1) := by decide +kernel
theorem dX5_ends_44 : decode cX5_ends 44 = .ok (.istore 11, 2) := by decide +kernel
theorem dX5_ends_46 : decode cX5_ends 46 = .ok (.iload 11, 2) := by decide +kernel
theorem dX5_ends_48 : decode cX5_ends 48 = .ok (.aload_n 0, 1) := by decide +kernel
theorem dX5_ends_49 : decode cX5_ends 49 = .ok (.getfield 9, 3) := by decide +kernel
theorem dX5_ends_52 : decode cX5_ends 52 = .ok (.getfield 50, 3) := by decide +kernel
theorem dX5_ends_55 : decode cX5_ends 55 = .ok (.iload 7, 2) := by decide +kernel
theorem dX5_ends_57 : decode cX5_ends 57 = .ok (.invokestatic 47, 3) := by decide +kernel
theorem dX5_ends_60 : decode cX5_ends 60 = .ok (.invokestatic 56, 3) := by decide +kernel
theorem dX5_ends_63 : decode cX5_ends 63 = .ok (.iadd, 1) := by decide +kernel
theorem dX5_ends_64 : decode cX5_ends 64 = .ok (.istore 12, 2) := by decide +kernel
theorem dX5_ends_66 : decode cX5_ends 66 = .ok (.lconst 0, 1) := by decide +kernel
theorem dX5_ends_67 : decode cX5_ends 67 = .ok (.lstore 13, 2) := by decide +kernel
theorem dX5_ends_69 : decode cX5_ends 69 = .ok (.iload 11, 2) := by decide +kernel
theorem dX5_ends_71 : decode cX5_ends 71 = .ok (.istore 15, 2) := by decide +kernel
theorem dX5_ends_73 : decode cX5_ends 73 = .ok (.iload 15, 2) := by decide +kernel
theorem dX5_ends_75 : decode cX5_ends 75 = .ok (.iload 12, 2) := by decide +kernel
theorem dX5_ends_77 : decode cX5_ends 77 = .ok (.if_icmp .ge 204, 3) := by decide +kernel
theorem dX5_ends_80 : decode cX5_ends 80 = .ok (.aload_n 0, 1) := by decide +kernel
theorem dX5_ends_81 : decode cX5_ends 81 = .ok (.getfield 9, 3) := by decide +kernel
theorem dX5_ends_84 : decode cX5_ends 84 = .ok (.getfield 60, 3) := by decide +kernel
theorem dX5_ends_87 : decode cX5_ends 87 = .ok (.iload 15, 2) := by decide +kernel
theorem dX5_ends_89 : decode cX5_ends 89 = .ok (.invokestatic 56, 3) := by decide +kernel
theorem dX5_ends_92 : decode cX5_ends 92 = .ok (.istore 16, 2) := by decide +kernel
theorem dX5_ends_94 : decode cX5_ends 94 = .ok (.iload 16, 2) := by decide +kernel
theorem dX5_ends_96 : decode cX5_ends 96 = .ok (.iconst 1, 1) := by decide +kernel
theorem dX5_ends_97 : decode cX5_ends 97 = .ok (.iand, 1) := by decide +kernel
theorem dX5_ends_98 : decode cX5_ends 98 = .ok (.ifCond .eq 7, 3) := by decide +kernel
theorem dX5_ends_101 : decode cX5_ends 101 = .ok (.lload_n 3, 1) := by decide +kernel
theorem dX5_ends_102 : decode cX5_ends 102 = .ok (.goto 4, 3) := by decide +kernel
theorem dX5_ends_105 : decode cX5_ends 105 = .ok (.lconst 0, 1) := by decide +kernel
theorem dX5_ends_106 : decode cX5_ends 106 = .ok (.iload 16, 2) := by decide +kernel
theorem dX5_ends_108 : decode cX5_ends 108 = .ok (.iconst 2, 1) := by decide +kernel
theorem dX5_ends_109 : decode cX5_ends 109 = .ok (.iand, 1) := by decide +kernel
theorem dX5_ends_110 : decode cX5_ends 110 = .ok (.ifCond .eq 8, 3) := by decide +kernel
theorem dX5_ends_113 : decode cX5_ends 113 = .ok (.lload 5, 2) := by decide +kernel
theorem dX5_ends_115 : decode cX5_ends 115 = .ok (.goto 4, 3) := by decide +kernel
theorem dX5_ends_118 : decode cX5_ends 118 = .ok (.lconst 0, 1) := by decide +kernel
theorem dX5_ends_119 : decode cX5_ends 119 = .ok (.lor, 1) := by decide +kernel
theorem dX5_ends_120 : decode cX5_ends 120 = .ok (.lstore 17, 2) := by decide +kernel
theorem dX5_ends_122 : decode cX5_ends 122 = .ok (.lload 17, 2) := by decide +kernel
theorem dX5_ends_124 : decode cX5_ends 124 = .ok (.lconst 0, 1) := by decide +kernel
theorem dX5_ends_125 : decode cX5_ends 125 = .ok (.lcmp, 1) := by decide +kernel
theorem dX5_ends_126 : decode cX5_ends 126 = .ok (.ifCond .ne 6, 3) := by decide +kernel
theorem dX5_ends_129 : decode cX5_ends 129 = .ok (.goto 146, 3) := by decide +kernel
theorem dX5_ends_132 : decode cX5_ends 132 = .ok (.iload 16, 2) := by decide +kernel
theorem dX5_ends_134 : decode cX5_ends 134 = .ok (.bipush 32, 2) := by decide +kernel
theorem dX5_ends_136 : decode cX5_ends 136 = .ok (.iand, 1) := by decide +kernel
theorem dX5_ends_137 : decode cX5_ends 137 = .ok (.ifCond .eq 7, 3) := by decide +kernel
theorem dX5_ends_140 : decode cX5_ends 140 = .ok (.iconst 1, 1) := by decide +kernel
theorem dX5_ends_141 : decode cX5_ends 141 = .ok (.goto 4, 3) := by decide +kernel
theorem dX5_ends_144 : decode cX5_ends 144 = .ok (.iconst 0, 1) := by decide +kernel
theorem dX5_ends_145 : decode cX5_ends 145 = .ok (.istore 19, 2) := by decide +kernel
theorem dX5_ends_147 : decode cX5_ends 147 = .ok (.aload_n 0, 1) := by decide +kernel
theorem dX5_ends_148 : decode cX5_ends 148 = .ok (.getfield 9, 3) := by decide +kernel
theorem dX5_ends_151 : decode cX5_ends 151 = .ok (.getfield 63, 3) := by decide +kernel
theorem dX5_ends_154 : decode cX5_ends 154 = .ok (.iload 15, 2) := by decide +kernel
theorem dX5_ends_156 : decode cX5_ends 156 = .ok (.invokestatic 56, 3) := by decide +kernel
theorem dX5_ends_159 : decode cX5_ends 159 = .ok (.istore 20, 2) := by decide +kernel
theorem dX5_ends_161 : decode cX5_ends 161 = .ok (.aload_n 0, 1) := by decide +kernel
theorem dX5_ends_162 : decode cX5_ends 162 = .ok (.getfield 9, 3) := by decide +kernel
theorem dX5_ends_165 : decode cX5_ends 165 = .ok (.getfield 66, 3) := by decide +kernel
theorem dX5_ends_168 : decode cX5_ends 168 = .ok (.iload 15, 2) := by decide +kernel
theorem dX5_ends_170 : decode cX5_ends 170 = .ok (.invokestatic 56, 3) := by decide +kernel
theorem dX5_ends_173 : decode cX5_ends 173 = .ok (.istore 21, 2) := by decide +kernel
theorem dX5_ends_175 : decode cX5_ends 175 = .ok (.aload_n 0, 1) := by decide +kernel
theorem dX5_ends_176 : decode cX5_ends 176 = .ok (.getfield 9, 3) := by decide +kernel
theorem dX5_ends_179 : decode cX5_ends 179 = .ok (.getfield 69, 3) := by decide +kernel
theorem dX5_ends_182 : decode cX5_ends 182 = .ok (.iload 15, 2) := by decide +kernel
theorem dX5_ends_184 : decode cX5_ends 184 = .ok (.invokestatic 56, 3) := by decide +kernel
theorem dX5_ends_187 : decode cX5_ends 187 = .ok (.istore 22, 2) := by decide +kernel
theorem dX5_ends_189 : decode cX5_ends 189 = .ok (.getstatic 72, 3) := by decide +kernel
theorem dX5_ends_192 : decode cX5_ends 192 = .ok (.iload 22, 2) := by decide +kernel
theorem dX5_ends_194 : decode cX5_ends 194 = .ok (.invokestatic 56, 3) := by decide +kernel
theorem dX5_ends_197 : decode cX5_ends 197 = .ok (.istore 23, 2) := by decide +kernel
theorem dX5_ends_199 : decode cX5_ends 199 = .ok (.getstatic 75, 3) := by decide +kernel
theorem dX5_ends_202 : decode cX5_ends 202 = .ok (.iload 22, 2) := by decide +kernel
theorem dX5_ends_204 : decode cX5_ends 204 = .ok (.invokestatic 56, 3) := by decide +kernel
theorem dX5_ends_207 : decode cX5_ends 207 = .ok (.istore 24, 2) := by decide +kernel
theorem dX5_ends_209 : decode cX5_ends 209 = .ok (.iload 24, 2) := by decide +kernel
theorem dX5_ends_211 : decode cX5_ends 211 = .ok (.iload 23, 2) := by decide +kernel
theorem dX5_ends_213 : decode cX5_ends 213 = .ok (.if_icmp .ge 62, 3) := by decide +kernel
theorem dX5_ends_216 : decode cX5_ends 216 = .ok (.iload 21, 2) := by decide +kernel
theorem dX5_ends_218 : decode cX5_ends 218 = .ok (.iload 24, 2) := by decide +kernel
theorem dX5_ends_220 : decode cX5_ends 220 = .ok (.ishr, 1) := by decide +kernel
theorem dX5_ends_221 : decode cX5_ends 221 = .ok (.iconst 1, 1) := by decide +kernel
theorem dX5_ends_222 : decode cX5_ends 222 = .ok (.iand, 1) := by decide +kernel
theorem dX5_ends_223 : decode cX5_ends 223 = .ok (.ifCond .eq 46, 3) := by decide +kernel
theorem dX5_ends_226 : decode cX5_ends 226 = .ok (.iload 10, 2) := by decide +kernel
theorem dX5_ends_228 : decode cX5_ends 228 = .ok (.getstatic 78, 3) := by decide +kernel
theorem dX5_ends_231 : decode cX5_ends 231 = .ok (.iload 24, 2) := by decide +kernel
theorem dX5_ends_233 : decode cX5_ends 233 = .ok (.invokestatic 56, 3) := by decide +kernel
theorem dX5_ends_236 : decode cX5_ends 236 = .ok (.imul, 1) := by decide +kernel
theorem dX5_ends_237 : decode cX5_ends 237 = .ok (.istore 25, 2) := by decide +kernel
theorem dX5_ends_239 : decode cX5_ends 239 = .ok (.lload 13, 2) := by decide +kernel
theorem dX5_ends_241 : decode cX5_ends 241 = .ok (.lload 17, 2) := by decide +kernel
theorem dX5_ends_243 : decode cX5_ends 243 = .ok (.aload_n 1, 1) := by decide +kernel
theorem dX5_ends_244 : decode cX5_ends 244 = .ok (.iload 8, 2) := by decide +kernel
theorem dX5_ends_246 : decode cX5_ends 246 = .ok (.iload 9, 2) := by decide +kernel
theorem dX5_ends_248 : decode cX5_ends 248 = .ok (.getstatic 81, 3) := by decide +kernel
theorem dX5_ends_251 : decode cX5_ends 251 = .ok (.iload 24, 2) := by decide +kernel
theorem dX5_ends_253 : decode cX5_ends 253 = .ok (.invokestatic 56, 3) := by decide +kernel
theorem dX5_ends_256 : decode cX5_ends 256 = .ok (.iload 25, 2) := by decide +kernel
theorem dX5_ends_258 : decode cX5_ends 258 = .ok (.iload 20, 2) := by decide +kernel
theorem dX5_ends_260 : decode cX5_ends 260 = .ok (.iload 19, 2) := by decide +kernel
theorem dX5_ends_262 : decode cX5_ends 262 = .ok (.invokestatic 84, 3) := by decide +kernel
theorem dX5_ends_265 : decode cX5_ends 265 = .ok (.land, 1) := by decide +kernel
theorem dX5_ends_266 : decode cX5_ends 266 = .ok (.lor, 1) := by decide +kernel
theorem dX5_ends_267 : decode cX5_ends 267 = .ok (.lstore 13, 2) := by decide +kernel
theorem dX5_ends_269 : decode cX5_ends 269 = .ok (.iinc 24 1, 3) := by decide +kernel
theorem dX5_ends_272 : decode cX5_ends 272 = .ok (.goto (-63), 3) := by decide +kernel
theorem dX5_ends_275 : decode cX5_ends 275 = .ok (.iinc 15 1, 3) := by decide +kernel
theorem dX5_ends_278 : decode cX5_ends 278 = .ok (.goto (-205), 3) := by decide +kernel
theorem dX5_ends_281 : decode cX5_ends 281 = .ok (.lload 13, 2) := by decide +kernel
theorem dX5_ends_283 : decode cX5_ends 283 = .ok (.lreturn, 1) := by decide +kernel
theorem dX5_way_0 : decode cX5_way 0 = .ok (.aload_n 0, 1) := by decide +kernel
theorem dX5_way_1 : decode cX5_way 1 = .ok (.getfield 15, 3) := by decide +kernel
theorem dX5_way_4 : decode cX5_way 4 = .ok (.aload_n 0, 1) := by decide +kernel
theorem dX5_way_5 : decode cX5_way 5 = .ok (.getfield 21, 3) := by decide +kernel
theorem dX5_way_8 : decode cX5_way 8 = .ok (.lor, 1) := by decide +kernel
theorem dX5_way_9 : decode cX5_way 9 = .ok (.lstore 7, 2) := by decide +kernel
theorem dX5_way_11 : decode cX5_way 11 = .ok (.lconst 0, 1) := by decide +kernel
theorem dX5_way_12 : decode cX5_way 12 = .ok (.lstore 9, 2) := by decide +kernel
theorem dX5_way_14 : decode cX5_way 14 = .ok (.iconst 0, 1) := by decide +kernel
theorem dX5_way_15 : decode cX5_way 15 = .ok (.istore 11, 2) := by decide +kernel
theorem dX5_way_17 : decode cX5_way 17 = .ok (.iload_n 1, 1) := by decide +kernel
theorem dX5_way_18 : decode cX5_way 18 = .ok (.iload_n 3, 1) := by decide +kernel
theorem dX5_way_19 : decode cX5_way 19 = .ok (.iadd, 1) := by decide +kernel
theorem dX5_way_20 : decode cX5_way 20 = .ok (.istore 12, 2) := by decide +kernel
theorem dX5_way_22 : decode cX5_way 22 = .ok (.iload_n 2, 1) := by decide +kernel
theorem dX5_way_23 : decode cX5_way 23 = .ok (.iload 4, 2) := by decide +kernel
theorem dX5_way_25 : decode cX5_way 25 = .ok (.iadd, 1) := by decide +kernel
theorem dX5_way_26 : decode cX5_way 26 = .ok (.istore 13, 2) := by decide +kernel
theorem dX5_way_28 : decode cX5_way 28 = .ok (.iconst 0, 1) := by decide +kernel
theorem dX5_way_29 : decode cX5_way 29 = .ok (.istore 14, 2) := by decide +kernel
theorem dX5_way_31 : decode cX5_way 31 = .ok (.iload 14, 2) := by decide +kernel
theorem dX5_way_33 : decode cX5_way 33 = .ok (.iload 5, 2) := by decide +kernel
theorem dX5_way_35 : decode cX5_way 35 = .ok (.if_icmp .ge 101, 3) := by decide +kernel
theorem dX5_way_38 : decode cX5_way 38 = .ok (.iload 12, 2) := by decide +kernel
theorem dX5_way_40 : decode cX5_way 40 = .ok (.ifCond .lt 96, 3) := by decide +kernel
theorem dX5_way_43 : decode cX5_way 43 = .ok (.iload 12, 2) := by decide +kernel
theorem dX5_way_45 : decode cX5_way 45 = .ok (.aload_n 0, 1) := by decide +kernel
theorem dX5_way_46 : decode cX5_way 46 = .ok (.getfield 88, 3) := by decide +kernel
theorem dX5_way_49 : decode cX5_way 49 = .ok (.if_icmp .ge 87, 3) := by decide +kernel
theorem dX5_way_52 : decode cX5_way 52 = .ok (.iload 13, 2) := by decide +kernel
theorem dX5_way_54 : decode cX5_way 54 = .ok (.ifCond .lt 82, 3) := by decide +kernel
theorem dX5_way_57 : decode cX5_way 57 = .ok (.iload 13, 2) := by decide +kernel
theorem dX5_way_59 : decode cX5_way 59 = .ok (.aload_n 0, 1) := by decide +kernel
theorem dX5_way_60 : decode cX5_way 60 = .ok (.getfield 92, 3) := by decide +kernel
theorem dX5_way_63 : decode cX5_way 63 = .ok (.if_icmp .ge 73, 3) := by decide +kernel
theorem dX5_way_66 : decode cX5_way 66 = .ok (.lconst 1, 1) := by decide +kernel
theorem dX5_way_67 : decode cX5_way 67 = .ok (.iload 13, 2) := by decide +kernel
theorem dX5_way_69 : decode cX5_way 69 = .ok (.aload_n 0, 1) := by decide +kernel
theorem dX5_way_70 : decode cX5_way 70 = .ok (.getfield 88, 3) := by decide +kernel
theorem dX5_way_73 : decode cX5_way 73 = .ok (.imul, 1) := by decide +kernel
theorem dX5_way_74 : decode cX5_way 74 = .ok (.iload 12, 2) := by decide +kernel
theorem dX5_way_76 : decode cX5_way 76 = .ok (.iadd, 1) := by decide +kernel
theorem dX5_way_77 : decode cX5_way 77 = .ok (.lshl, 1) := by decide +kernel
theorem dX5_way_78 : decode cX5_way 78 = .ok (.lstore 15, 2) := by decide +kernel
theorem dX5_way_80 : decode cX5_way 80 = .ok (.iload 11, 2) := by decide +kernel
theorem dX5_way_82 : decode cX5_way 82 = .ok (.iload 6, 2) := by decide +kernel
theorem dX5_way_84 : decode cX5_way 84 = .ok (.if_icmp .ne 10, 3) := by decide +kernel
theorem dX5_way_87 : decode cX5_way 87 = .ok (.lload 9, 2) := by decide +kernel
theorem dX5_way_89 : decode cX5_way 89 = .ok (.lload 15, 2) := by decide +kernel
theorem dX5_way_91 : decode cX5_way 91 = .ok (.lor, 1) := by decide +kernel
theorem dX5_way_92 : decode cX5_way 92 = .ok (.lstore 9, 2) := by decide +kernel
theorem dX5_way_94 : decode cX5_way 94 = .ok (.lload 7, 2) := by decide +kernel
theorem dX5_way_96 : decode cX5_way 96 = .ok (.lload 15, 2) := by decide +kernel
theorem dX5_way_98 : decode cX5_way 98 = .ok (.land, 1) := by decide +kernel
theorem dX5_way_99 : decode cX5_way 99 = .ok (.lconst 0, 1) := by decide +kernel
theorem dX5_way_100 : decode cX5_way 100 = .ok (.lcmp, 1) := by decide +kernel
theorem dX5_way_101 : decode cX5_way 101 = .ok (.ifCond .eq 6, 3) := by decide +kernel
theorem dX5_way_104 : decode cX5_way 104 = .ok (.iinc 11 1, 3) := by decide +kernel
theorem dX5_way_107 : decode cX5_way 107 = .ok (.iload 11, 2) := by decide +kernel
theorem dX5_way_109 : decode cX5_way 109 = .ok (.iload 6, 2) := by decide +kernel
theorem dX5_way_111 : decode cX5_way 111 = .ok (.if_icmp .le 6, 3) := by decide +kernel
theorem dX5_way_114 : decode cX5_way 114 = .ok (.goto 22, 3) := by decide +kernel
theorem dX5_way_117 : decode cX5_way 117 = .ok (.iload 12, 2) := by decide +kernel
theorem dX5_way_119 : decode cX5_way 119 = .ok (.iload_n 3, 1) := by decide +kernel
theorem dX5_way_120 : decode cX5_way 120 = .ok (.iadd, 1) := by decide +kernel
theorem dX5_way_121 : decode cX5_way 121 = .ok (.istore 12, 2) := by decide +kernel
theorem dX5_way_123 : decode cX5_way 123 = .ok (.iload 13, 2) := by decide +kernel
theorem dX5_way_125 : decode cX5_way 125 = .ok (.iload 4, 2) := by decide +kernel
theorem dX5_way_127 : decode cX5_way 127 = .ok (.iadd, 1) := by decide +kernel
theorem dX5_way_128 : decode cX5_way 128 = .ok (.istore 13, 2) := by decide +kernel
theorem dX5_way_130 : decode cX5_way 130 = .ok (.iinc 14 1, 3) := by decide +kernel
theorem dX5_way_133 : decode cX5_way 133 = .ok (.goto (-102), 3) := by decide +kernel
theorem dX5_way_136 : decode cX5_way 136 = .ok (.lload 9, 2) := by decide +kernel
theorem dX5_way_138 : decode cX5_way 138 = .ok (.lreturn, 1) := by decide +kernel
theorem dX5_attackedBy_0 : decode cX5_attackedBy 0 = .ok (.lconst 0, 1) := by decide +kernel
theorem dX5_attackedBy_1 : decode cX5_attackedBy 1 = .ok (.lstore_n 3, 1) := by decide +kernel
theorem dX5_attackedBy_2 : decode cX5_attackedBy 2 = .ok (.iconst 0, 1) := by decide +kernel
theorem dX5_attackedBy_3 : decode cX5_attackedBy 3 = .ok (.istore 5, 2) := by decide +kernel
theorem dX5_attackedBy_5 : decode cX5_attackedBy 5 = .ok (.iload 5, 2) := by decide +kernel
theorem dX5_attackedBy_7 : decode cX5_attackedBy 7 = .ok (.aload_n 1, 1) := by decide +kernel
theorem dX5_attackedBy_8 : decode cX5_attackedBy 8 = .ok (.invokevirtual 95, 3) := by decide +kernel
theorem dX5_attackedBy_11 : decode cX5_attackedBy 11 = .ok (.if_icmp .ge 36, 3) := by decide +kernel
theorem dX5_attackedBy_14 : decode cX5_attackedBy 14 = .ok (.aload_n 1, 1) := by decide +kernel
theorem dX5_attackedBy_15 : decode cX5_attackedBy 15 = .ok (.iload_n 2, 1) := by decide +kernel
theorem dX5_attackedBy_16 : decode cX5_attackedBy 16 = .ok (.invokevirtual 33, 3) := by decide +kernel
theorem dX5_attackedBy_19 : decode cX5_attackedBy 19 = .ok (.iload 5, 2) := by decide +kernel
theorem dX5_attackedBy_21 : decode cX5_attackedBy 21 = .ok (.invokestatic 99, 3) := by decide +kernel
theorem dX5_attackedBy_24 : decode cX5_attackedBy 24 = .ok (.ifCond .eq 17, 3) := by decide +kernel
theorem dX5_attackedBy_27 : decode cX5_attackedBy 27 = .ok (.lload_n 3, 1) := by decide +kernel
theorem dX5_attackedBy_28 : decode cX5_attackedBy 28 = .ok (.aload_n 0, 1) := by decide +kernel
theorem dX5_attackedBy_29 : decode cX5_attackedBy 29 = .ok (.aload_n 1, 1) := by decide +kernel
theorem dX5_attackedBy_30 : decode cX5_attackedBy 30 = .ok (.iload 5, 2) := by decide +kernel
theorem dX5_attackedBy_32 : decode cX5_attackedBy 32 = .ok (.lconst 0, 1) := by decide +kernel
theorem dX5_attackedBy_33 : decode cX5_attackedBy 33 = .ok (.ldc2_w 24, 3) := by decide +kernel
theorem dX5_attackedBy_36 : decode cX5_attackedBy 36 = .ok (.invokevirtual 37, 3) := by decide +kernel
theorem dX5_attackedBy_39 : decode cX5_attackedBy 39 = .ok (.lor, 1) := by decide +kernel
theorem dX5_attackedBy_40 : decode cX5_attackedBy 40 = .ok (.lstore_n 3, 1) := by decide +kernel
theorem dX5_attackedBy_41 : decode cX5_attackedBy 41 = .ok (.iinc 5 1, 3) := by decide +kernel
theorem dX5_attackedBy_44 : decode cX5_attackedBy 44 = .ok (.goto (-39), 3) := by decide +kernel
theorem dX5_attackedBy_47 : decode cX5_attackedBy 47 = .ok (.lload_n 3, 1) := by decide +kernel
theorem dX5_attackedBy_48 : decode cX5_attackedBy 48 = .ok (.lreturn, 1) := by decide +kernel
theorem dX5_menAttacking_0 : decode cX5_menAttacking 0 = .ok (.lconst 0, 1) := by decide +kernel
theorem dX5_menAttacking_1 : decode cX5_menAttacking 1 = .ok (.lstore 5, 2) := by decide +kernel
theorem dX5_menAttacking_3 : decode cX5_menAttacking 3 = .ok (.iconst 0, 1) := by decide +kernel
theorem dX5_menAttacking_4 : decode cX5_menAttacking 4 = .ok (.istore 7, 2) := by decide +kernel
theorem dX5_menAttacking_6 : decode cX5_menAttacking 6 = .ok (.iload 7, 2) := by decide +kernel
theorem dX5_menAttacking_8 : decode cX5_menAttacking 8 = .ok (.aload_n 1, 1) := by decide +kernel
theorem dX5_menAttacking_9 : decode cX5_menAttacking 9 = .ok (.invokevirtual 95, 3) := by decide +kernel
theorem dX5_menAttacking_12 : decode cX5_menAttacking 12 = .ok (.if_icmp .ge 49, 3) := by decide +kernel
theorem dX5_menAttacking_15 : decode cX5_menAttacking 15 = .ok (.aload_n 1, 1) := by decide +kernel
theorem dX5_menAttacking_16 : decode cX5_menAttacking 16 = .ok (.iload_n 2, 1) := by decide +kernel
theorem dX5_menAttacking_17 : decode cX5_menAttacking 17 = .ok (.invokevirtual 33, 3) := by decide +kernel
theorem dX5_menAttacking_20 : decode cX5_menAttacking 20 = .ok (.iload 7, 2) := by decide +kernel
theorem dX5_menAttacking_22 : decode cX5_menAttacking 22 = .ok (.invokestatic 99, 3) := by decide +kernel
theorem dX5_menAttacking_25 : decode cX5_menAttacking 25 = .ok (.ifCond .eq 30, 3) := by decide +kernel
theorem dX5_menAttacking_28 : decode cX5_menAttacking 28 = .ok (.aload_n 0, 1) := by decide +kernel
theorem dX5_menAttacking_29 : decode cX5_menAttacking 29 = .ok (.aload_n 1, 1) := by decide +kernel
theorem dX5_menAttacking_30 : decode cX5_menAttacking 30 = .ok (.iload 7, 2) := by decide +kernel
theorem dX5_menAttacking_32 : decode cX5_menAttacking 32 = .ok (.lconst 0, 1) := by decide +kernel
theorem dX5_menAttacking_33 : decode cX5_menAttacking 33 = .ok (.ldc2_w 24, 3) := by decide +kernel
theorem dX5_menAttacking_36 : decode cX5_menAttacking 36 = .ok (.invokevirtual 37, 3) := by decide +kernel
theorem dX5_menAttacking_39 : decode cX5_menAttacking 39 = .ok (.lload_n 3, 1) := by decide +kernel
theorem dX5_menAttacking_40 : decode cX5_menAttacking 40 = .ok (.land, 1) := by decide +kernel
theorem dX5_menAttacking_41 : decode cX5_menAttacking 41 = .ok (.lconst 0, 1) := by decide +kernel
theorem dX5_menAttacking_42 : decode cX5_menAttacking 42 = .ok (.lcmp, 1) := by decide +kernel
theorem dX5_menAttacking_43 : decode cX5_menAttacking 43 = .ok (.ifCond .eq 12, 3) := by decide +kernel
theorem dX5_menAttacking_46 : decode cX5_menAttacking 46 = .ok (.lload 5, 2) := by decide +kernel
theorem dX5_menAttacking_48 : decode cX5_menAttacking 48 = .ok (.lconst 1, 1) := by decide +kernel
theorem dX5_menAttacking_49 : decode cX5_menAttacking 49 = .ok (.iload 7, 2) := by decide +kernel
theorem dX5_menAttacking_51 : decode cX5_menAttacking 51 = .ok (.lshl, 1) := by decide +kernel
theorem dX5_menAttacking_52 : decode cX5_menAttacking 52 = .ok (.lor, 1) := by decide +kernel
theorem dX5_menAttacking_53 : decode cX5_menAttacking 53 = .ok (.lstore 5, 2) := by decide +kernel
theorem dX5_menAttacking_55 : decode cX5_menAttacking 55 = .ok (.iinc 7 1, 3) := by decide +kernel
theorem dX5_menAttacking_58 : decode cX5_menAttacking 58 = .ok (.goto (-52), 3) := by decide +kernel
theorem dX5_menAttacking_61 : decode cX5_menAttacking 61 = .ok (.lload 5, 2) := by decide +kernel
theorem dX5_menAttacking_63 : decode cX5_menAttacking 63 = .ok (.lreturn, 1) := by decide +kernel
theorem dX5_royalMen_0 : decode cX5_royalMen 0 = .ok (.lconst 0, 1) := by decide +kernel
theorem dX5_royalMen_1 : decode cX5_royalMen 1 = .ok (.lstore_n 3, 1) := by decide +kernel
theorem dX5_royalMen_2 : decode cX5_royalMen 2 = .ok (.iconst 0, 1) := by decide +kernel
theorem dX5_royalMen_3 : decode cX5_royalMen 3 = .ok (.istore 5, 2) := by decide +kernel
theorem dX5_royalMen_5 : decode cX5_royalMen 5 = .ok (.iload 5, 2) := by decide +kernel
theorem dX5_royalMen_7 : decode cX5_royalMen 7 = .ok (.aload_n 1, 1) := by decide +kernel
theorem dX5_royalMen_8 : decode cX5_royalMen 8 = .ok (.invokevirtual 95, 3) := by decide +kernel
theorem dX5_royalMen_11 : decode cX5_royalMen 11 = .ok (.if_icmp .ge 48, 3) := by decide +kernel
theorem dX5_royalMen_14 : decode cX5_royalMen 14 = .ok (.aload_n 1, 1) := by decide +kernel
theorem dX5_royalMen_15 : decode cX5_royalMen 15 = .ok (.iload_n 2, 1) := by decide +kernel
theorem dX5_royalMen_16 : decode cX5_royalMen 16 = .ok (.invokevirtual 33, 3) := by decide +kernel
theorem dX5_royalMen_19 : decode cX5_royalMen 19 = .ok (.iload 5, 2) := by decide +kernel
theorem dX5_royalMen_21 : decode cX5_royalMen 21 = .ok (.invokestatic 99, 3) := by decide +kernel
theorem dX5_royalMen_24 : decode cX5_royalMen 24 = .ok (.ifCond .eq 29, 3) := by decide +kernel
theorem dX5_royalMen_27 : decode cX5_royalMen 27 = .ok (.aload_n 0, 1) := by decide +kernel
theorem dX5_royalMen_28 : decode cX5_royalMen 28 = .ok (.getfield 9, 3) := by decide +kernel
theorem dX5_royalMen_31 : decode cX5_royalMen 31 = .ok (.aload_n 1, 1) := by decide +kernel
theorem dX5_royalMen_32 : decode cX5_royalMen 32 = .ok (.iload 5, 2) := by decide +kernel
theorem dX5_royalMen_34 : decode cX5_royalMen 34 = .ok (.invokevirtual 26, 3) := by decide +kernel
theorem dX5_royalMen_37 : decode cX5_royalMen 37 = .ok (.invokestatic 47, 3) := by decide +kernel
theorem dX5_royalMen_40 : decode cX5_royalMen 40 = .ok (.invokevirtual 103, 3) := by decide +kernel
theorem dX5_royalMen_43 : decode cX5_royalMen 43 = .ok (.ifCond .eq 10, 3) := by decide +kernel
theorem dX5_royalMen_46 : decode cX5_royalMen 46 = .ok (.lload_n 3, 1) := by decide +kernel
theorem dX5_royalMen_47 : decode cX5_royalMen 47 = .ok (.lconst 1, 1) := by decide +kernel
theorem dX5_royalMen_48 : decode cX5_royalMen 48 = .ok (.iload 5, 2) := by decide +kernel
theorem dX5_royalMen_50 : decode cX5_royalMen 50 = .ok (.lshl, 1) := by decide +kernel
theorem dX5_royalMen_51 : decode cX5_royalMen 51 = .ok (.lor, 1) := by decide +kernel
theorem dX5_royalMen_52 : decode cX5_royalMen 52 = .ok (.lstore_n 3, 1) := by decide +kernel
theorem dX5_royalMen_53 : decode cX5_royalMen 53 = .ok (.iinc 5 1, 3) := by decide +kernel
theorem dX5_royalMen_56 : decode cX5_royalMen 56 = .ok (.goto (-51), 3) := by decide +kernel
theorem dX5_royalMen_59 : decode cX5_royalMen 59 = .ok (.lload_n 3, 1) := by decide +kernel
theorem dX5_royalMen_60 : decode cX5_royalMen 60 = .ok (.lreturn, 1) := by decide +kernel
theorem dX5_isSafe_0 : decode cX5_isSafe 0 = .ok (.aload_n 0, 1) := by decide +kernel
theorem dX5_isSafe_1 : decode cX5_isSafe 1 = .ok (.getfield 9, 3) := by decide +kernel
theorem dX5_isSafe_4 : decode cX5_isSafe 4 = .ok (.getfield 107, 3) := by decide +kernel
theorem dX5_isSafe_7 : decode cX5_isSafe 7 = .ok (.iconst 2, 1) := by decide +kernel
theorem dX5_isSafe_8 : decode cX5_isSafe 8 = .ok (.if_icmp .ne 5, 3) := by decide +kernel
theorem dX5_isSafe_11 : decode cX5_isSafe 11 = .ok (.iconst 1, 1) := by decide +kernel
theorem dX5_isSafe_12 : decode cX5_isSafe 12 = .ok (.ireturn, 1) := by decide +kernel
theorem dX5_isSafe_13 : decode cX5_isSafe 13 = .ok (.aload_n 0, 1) := by decide +kernel
theorem dX5_isSafe_14 : decode cX5_isSafe 14 = .ok (.aload_n 1, 1) := by decide +kernel
theorem dX5_isSafe_15 : decode cX5_isSafe 15 = .ok (.iload_n 2, 1) := by decide +kernel
theorem dX5_isSafe_16 : decode cX5_isSafe 16 = .ok (.invokevirtual 110, 3) := by decide +kernel
theorem dX5_isSafe_19 : decode cX5_isSafe 19 = .ok (.lstore_n 3, 1) := by decide +kernel
theorem dX5_isSafe_20 : decode cX5_isSafe 20 = .ok (.lload_n 3, 1) := by decide +kernel
theorem dX5_isSafe_21 : decode cX5_isSafe 21 = .ok (.lconst 0, 1) := by decide +kernel
theorem dX5_isSafe_22 : decode cX5_isSafe 22 = .ok (.lcmp, 1) := by decide +kernel
theorem dX5_isSafe_23 : decode cX5_isSafe 23 = .ok (.ifCond .ne 5, 3) := by decide +kernel
theorem dX5_isSafe_26 : decode cX5_isSafe 26 = .ok (.iconst 1, 1) := by decide +kernel
theorem dX5_isSafe_27 : decode cX5_isSafe 27 = .ok (.ireturn, 1) := by decide +kernel
theorem dX5_isSafe_28 : decode cX5_isSafe 28 = .ok (.aload_n 0, 1) := by decide +kernel
theorem dX5_isSafe_29 : decode cX5_isSafe 29 = .ok (.aload_n 1, 1) := by decide +kernel
theorem dX5_isSafe_30 : decode cX5_isSafe 30 = .ok (.iconst 1, 1) := by decide +kernel
theorem dX5_isSafe_31 : decode cX5_isSafe 31 = .ok (.iload_n 2, 1) := by decide +kernel
theorem dX5_isSafe_32 : decode cX5_isSafe 32 = .ok (.isub, 1) := by decide +kernel
theorem dX5_isSafe_33 : decode cX5_isSafe 33 = .ok (.invokevirtual 114, 3) := by decide +kernel
theorem dX5_isSafe_36 : decode cX5_isSafe 36 = .ok (.lstore 5, 2) := by decide +kernel
theorem dX5_isSafe_38 : decode cX5_isSafe 38 = .ok (.aload_n 0, 1) := by decide +kernel
theorem dX5_isSafe_39 : decode cX5_isSafe 39 = .ok (.getfield 9, 3) := by decide +kernel
theorem dX5_isSafe_42 : decode cX5_isSafe 42 = .ok (.getfield 107, 3) := by decide +kernel
theorem dX5_isSafe_45 : decode cX5_isSafe 45 = .ok (.ifCond .ne 20, 3) := by decide +kernel
theorem dX5_isSafe_48 : decode cX5_isSafe 48 = .ok (.lload_n 3, 1) := by decide +kernel
theorem dX5_isSafe_49 : decode cX5_isSafe 49 = .ok (.lload 5, 2) := by decide +kernel
theorem dX5_isSafe_51 : decode cX5_isSafe 51 = .ok (.land, 1) := by decide +kernel
theorem dX5_isSafe_52 : decode cX5_isSafe 52 = .ok (.lconst 0, 1) := by decide +kernel
theorem dX5_isSafe_53 : decode cX5_isSafe 53 = .ok (.lcmp, 1) := by decide +kernel
theorem dX5_isSafe_54 : decode cX5_isSafe 54 = .ok (.ifCond .ne 7, 3) := by decide +kernel
theorem dX5_isSafe_57 : decode cX5_isSafe 57 = .ok (.iconst 1, 1) := by decide +kernel
theorem dX5_isSafe_58 : decode cX5_isSafe 58 = .ok (.goto 25, 3) := by decide +kernel
theorem dX5_isSafe_61 : decode cX5_isSafe 61 = .ok (.iconst 0, 1) := by decide +kernel
theorem dX5_isSafe_62 : decode cX5_isSafe 62 = .ok (.goto 21, 3) := by decide +kernel
theorem dX5_isSafe_65 : decode cX5_isSafe 65 = .ok (.lload_n 3, 1) := by decide +kernel
theorem dX5_isSafe_66 : decode cX5_isSafe 66 = .ok (.lload 5, 2) := by decide +kernel
theorem dX5_isSafe_68 : decode cX5_isSafe 68 = .ok (.ldc2_w 24, 3) := by decide +kernel
theorem dX5_isSafe_71 : decode cX5_isSafe 71 = .ok (.lxor, 1) := by decide +kernel
theorem dX5_isSafe_72 : decode cX5_isSafe 72 = .ok (.land, 1) := by decide +kernel
theorem dX5_isSafe_73 : decode cX5_isSafe 73 = .ok (.lconst 0, 1) := by decide +kernel
theorem dX5_isSafe_74 : decode cX5_isSafe 74 = .ok (.lcmp, 1) := by decide +kernel
theorem dX5_isSafe_75 : decode cX5_isSafe 75 = .ok (.ifCond .eq 7, 3) := by decide +kernel
theorem dX5_isSafe_78 : decode cX5_isSafe 78 = .ok (.iconst 1, 1) := by decide +kernel
theorem dX5_isSafe_79 : decode cX5_isSafe 79 = .ok (.goto 4, 3) := by decide +kernel
theorem dX5_isSafe_82 : decode cX5_isSafe 82 = .ok (.iconst 0, 1) := by decide +kernel
theorem dX5_isSafe_83 : decode cX5_isSafe 83 = .ok (.ireturn, 1) := by decide +kernel
theorem dX5_lowestChecker_0 : decode cX5_lowestChecker 0 = .ok (.aload_n 0, 1) := by decide +kernel
theorem dX5_lowestChecker_1 : decode cX5_lowestChecker 1 = .ok (.aload_n 1, 1) := by decide +kernel
theorem dX5_lowestChecker_2 : decode cX5_lowestChecker 2 = .ok (.iconst 1, 1) := by decide +kernel
theorem dX5_lowestChecker_3 : decode cX5_lowestChecker 3 = .ok (.iload_n 2, 1) := by decide +kernel
theorem dX5_lowestChecker_4 : decode cX5_lowestChecker 4 = .ok (.isub, 1) := by decide +kernel
theorem dX5_lowestChecker_5 : decode cX5_lowestChecker 5 = .ok (.aload_n 0, 1) := by decide +kernel
theorem dX5_lowestChecker_6 : decode cX5_lowestChecker 6 = .ok (.aload_n 1, 1) := by decide +kernel
theorem dX5_lowestChecker_7 : decode cX5_lowestChecker 7 = .ok (.iload_n 2, 1) := by decide +kernel
theorem dX5_lowestChecker_8 : decode cX5_lowestChecker 8 = .ok (.invokevirtual 110, 3) := by decide +kernel
theorem dX5_lowestChecker_11 : decode cX5_lowestChecker 11 = .ok (.invokevirtual 117, 3) := by decide +kernel
theorem dX5_lowestChecker_14 : decode cX5_lowestChecker 14 = .ok (.lstore_n 3, 1) := by decide +kernel
theorem dX5_lowestChecker_15 : decode cX5_lowestChecker 15 = .ok (.iconst 0, 1) := by decide +kernel
theorem dX5_lowestChecker_16 : decode cX5_lowestChecker 16 = .ok (.istore 5, 2) := by decide +kernel
theorem dX5_lowestChecker_18 : decode cX5_lowestChecker 18 = .ok (.iload 5, 2) := by decide +kernel
theorem dX5_lowestChecker_20 : decode cX5_lowestChecker 20 = .ok (.aload_n 1, 1) := by decide +kernel
theorem dX5_lowestChecker_21 : decode cX5_lowestChecker 21 = .ok (.invokevirtual 95, 3) := by decide +kernel
theorem dX5_lowestChecker_24 : decode cX5_lowestChecker 24 = .ok (.if_icmp .ge 21, 3) := by decide +kernel
theorem dX5_lowestChecker_27 : decode cX5_lowestChecker 27 = .ok (.lload_n 3, 1) := by decide +kernel
theorem dX5_lowestChecker_28 : decode cX5_lowestChecker 28 = .ok (.iload 5, 2) := by decide +kernel
theorem dX5_lowestChecker_30 : decode cX5_lowestChecker 30 = .ok (.invokestatic 99, 3) := by decide +kernel
theorem dX5_lowestChecker_33 : decode cX5_lowestChecker 33 = .ok (.ifCond .eq 6, 3) := by decide +kernel
theorem dX5_lowestChecker_36 : decode cX5_lowestChecker 36 = .ok (.iload 5, 2) := by decide +kernel
theorem dX5_lowestChecker_38 : decode cX5_lowestChecker 38 = .ok (.ireturn, 1) := by decide +kernel
theorem dX5_lowestChecker_39 : decode cX5_lowestChecker 39 = .ok (.iinc 5 1, 3) := by decide +kernel
theorem dX5_lowestChecker_42 : decode cX5_lowestChecker 42 = .ok (.goto (-24), 3) := by decide +kernel
theorem dX5_lowestChecker_45 : decode cX5_lowestChecker 45 = .ok (.bipush (-5), 2) := by decide +kernel
theorem dX5_lowestChecker_47 : decode cX5_lowestChecker 47 = .ok (.ireturn, 1) := by decide +kernel
theorem dX5_goer_0 : decode cX5_goer 0 = .ok (.iload_n 2, 1) := by decide +kernel
theorem dX5_goer_1 : decode cX5_goer 1 = .ok (.invokestatic 121, 3) := by decide +kernel
theorem dX5_goer_4 : decode cX5_goer 4 = .ok (.lookupswitch 54 #[(0, 28), (1, 37)], 28) := by decide +kernel
theorem dX5_goer_32 : decode cX5_goer 32 = .ok (.aload_n 1, 1) := by decide +kernel
theorem dX5_goer_33 : decode cX5_goer 33 = .ok (.iload_n 2, 1) := by decide +kernel
theorem dX5_goer_34 : decode cX5_goer 34 = .ok (.invokestatic 124, 3) := by decide +kernel
theorem dX5_goer_37 : decode cX5_goer 37 = .ok (.invokevirtual 26, 3) := by decide +kernel
theorem dX5_goer_40 : decode cX5_goer 40 = .ok (.ireturn, 1) := by decide +kernel
theorem dX5_goer_41 : decode cX5_goer 41 = .ok (.aload_n 1, 1) := by decide +kernel
theorem dX5_goer_42 : decode cX5_goer 42 = .ok (.aload_n 0, 1) := by decide +kernel
theorem dX5_goer_43 : decode cX5_goer 43 = .ok (.getfield 9, 3) := by decide +kernel
theorem dX5_goer_46 : decode cX5_goer 46 = .ok (.iload_n 2, 1) := by decide +kernel
theorem dX5_goer_47 : decode cX5_goer 47 = .ok (.invokestatic 124, 3) := by decide +kernel
theorem dX5_goer_50 : decode cX5_goer 50 = .ok (.iconst 0, 1) := by decide +kernel
theorem dX5_goer_51 : decode cX5_goer 51 = .ok (.invokevirtual 127, 3) := by decide +kernel
theorem dX5_goer_54 : decode cX5_goer 54 = .ok (.invokevirtual 26, 3) := by decide +kernel
theorem dX5_goer_57 : decode cX5_goer 57 = .ok (.ireturn, 1) := by decide +kernel
theorem dX5_goer_58 : decode cX5_goer 58 = .ok (.aload_n 1, 1) := by decide +kernel
theorem dX5_goer_59 : decode cX5_goer 59 = .ok (.getfield 131, 3) := by decide +kernel
theorem dX5_goer_62 : decode cX5_goer 62 = .ok (.iload_n 2, 1) := by decide +kernel
theorem dX5_goer_63 : decode cX5_goer 63 = .ok (.invokestatic 124, 3) := by decide +kernel
theorem dX5_goer_66 : decode cX5_goer 66 = .ok (.invokestatic 134, 3) := by decide +kernel
theorem dX5_goer_69 : decode cX5_goer 69 = .ok (.ireturn, 1) := by decide +kernel
theorem dX5_arrival_0 : decode cX5_arrival 0 = .ok (.aload_n 0, 1) := by decide +kernel
theorem dX5_arrival_1 : decode cX5_arrival 1 = .ok (.aload_n 1, 1) := by decide +kernel
theorem dX5_arrival_2 : decode cX5_arrival 2 = .ok (.iload_n 2, 1) := by decide +kernel
theorem dX5_arrival_3 : decode cX5_arrival 3 = .ok (.invokevirtual 137, 3) := by decide +kernel
theorem dX5_arrival_6 : decode cX5_arrival 6 = .ok (.istore_n 3, 1) := by decide +kernel
theorem dX5_arrival_7 : decode cX5_arrival 7 = .ok (.aload_n 0, 1) := by decide +kernel
theorem dX5_arrival_8 : decode cX5_arrival 8 = .ok (.aload_n 1, 1) := by decide +kernel
theorem dX5_arrival_9 : decode cX5_arrival 9 = .ok (.iload_n 2, 1) := by decide +kernel
theorem dX5_arrival_10 : decode cX5_arrival 10 = .ok (.invokevirtual 141, 3) := by decide +kernel
theorem dX5_arrival_13 : decode cX5_arrival 13 = .ok (.ifCond .eq 24, 3) := by decide +kernel
theorem dX5_arrival_16 : decode cX5_arrival 16 = .ok (.iload_n 3, 1) := by decide +kernel
theorem dX5_arrival_17 : decode cX5_arrival 17 = .ok (.invokestatic 30, 3) := by decide +kernel
theorem dX5_arrival_20 : decode cX5_arrival 20 = .ok (.aload_n 0, 1) := by decide +kernel
theorem dX5_arrival_21 : decode cX5_arrival 21 = .ok (.getfield 9, 3) := by decide +kernel
theorem dX5_arrival_24 : decode cX5_arrival 24 = .ok (.iload_n 3, 1) := by decide +kernel
theorem dX5_arrival_25 : decode cX5_arrival 25 = .ok (.invokestatic 47, 3) := by decide +kernel
theorem dX5_arrival_28 : decode cX5_arrival 28 = .ok (.invokevirtual 145, 3) := by decide +kernel
theorem dX5_arrival_31 : decode cX5_arrival 31 = .ok (.invokestatic 134, 3) := by decide +kernel
theorem dX5_arrival_34 : decode cX5_arrival 34 = .ok (.goto 4, 3) := by decide +kernel
theorem dX5_arrival_37 : decode cX5_arrival 37 = .ok (.iload_n 3, 1) := by decide +kernel
theorem dX5_arrival_38 : decode cX5_arrival 38 = .ok (.ireturn, 1) := by decide +kernel
theorem dX5_promotes_0 : decode cX5_promotes 0 = .ok (.iload_n 2, 1) := by decide +kernel
theorem dX5_promotes_1 : decode cX5_promotes 1 = .ok (.invokestatic 121, 3) := by decide +kernel
theorem dX5_promotes_4 : decode cX5_promotes 4 = .ok (.ifCond .eq 5, 3) := by decide +kernel
theorem dX5_promotes_7 : decode cX5_promotes 7 = .ok (.iconst 0, 1) := by decide +kernel
theorem dX5_promotes_8 : decode cX5_promotes 8 = .ok (.ireturn, 1) := by decide +kernel
theorem dX5_promotes_9 : decode cX5_promotes 9 = .ok (.aload_n 1, 1) := by decide +kernel
theorem dX5_promotes_10 : decode cX5_promotes 10 = .ok (.iload_n 2, 1) := by decide +kernel
theorem dX5_promotes_11 : decode cX5_promotes 11 = .ok (.invokestatic 124, 3) := by decide +kernel
theorem dX5_promotes_14 : decode cX5_promotes 14 = .ok (.invokevirtual 26, 3) := by decide +kernel
theorem dX5_promotes_17 : decode cX5_promotes 17 = .ok (.istore_n 3, 1) := by decide +kernel
theorem dX5_promotes_18 : decode cX5_promotes 18 = .ok (.aload_n 0, 1) := by decide +kernel
theorem dX5_promotes_19 : decode cX5_promotes 19 = .ok (.getfield 9, 3) := by decide +kernel
theorem dX5_promotes_22 : decode cX5_promotes 22 = .ok (.iload_n 3, 1) := by decide +kernel
theorem dX5_promotes_23 : decode cX5_promotes 23 = .ok (.invokestatic 47, 3) := by decide +kernel
theorem dX5_promotes_26 : decode cX5_promotes 26 = .ok (.invokevirtual 145, 3) := by decide +kernel
theorem dX5_promotes_29 : decode cX5_promotes 29 = .ok (.ifCond .lt 22, 3) := by decide +kernel
theorem dX5_promotes_32 : decode cX5_promotes 32 = .ok (.aload_n 1, 1) := by decide +kernel
theorem dX5_promotes_33 : decode cX5_promotes 33 = .ok (.iload_n 3, 1) := by decide +kernel
theorem dX5_promotes_34 : decode cX5_promotes 34 = .ok (.invokestatic 30, 3) := by decide +kernel
theorem dX5_promotes_37 : decode cX5_promotes 37 = .ok (.iload_n 2, 1) := by decide +kernel
theorem dX5_promotes_38 : decode cX5_promotes 38 = .ok (.invokestatic 148, 3) := by decide +kernel
theorem dX5_promotes_41 : decode cX5_promotes 41 = .ok (.invokevirtual 151, 3) := by decide +kernel
theorem dX5_promotes_44 : decode cX5_promotes 44 = .ok (.ifCond .eq 7, 3) := by decide +kernel
theorem dX5_promotes_47 : decode cX5_promotes 47 = .ok (.iconst 1, 1) := by decide +kernel
theorem dX5_promotes_48 : decode cX5_promotes 48 = .ok (.goto 4, 3) := by decide +kernel
theorem dX5_promotes_51 : decode cX5_promotes 51 = .ok (.iconst 0, 1) := by decide +kernel
theorem dX5_promotes_52 : decode cX5_promotes 52 = .ok (.ireturn, 1) := by decide +kernel
theorem dX5_captured_0 : decode cX5_captured 0 = .ok (.iload_n 2, 1) := by decide +kernel
theorem dX5_captured_1 : decode cX5_captured 1 = .ok (.invokestatic 121, 3) := by decide +kernel
theorem dX5_captured_4 : decode cX5_captured 4 = .ok (.ifCond .ne 14, 3) := by decide +kernel
theorem dX5_captured_7 : decode cX5_captured 7 = .ok (.aload_n 1, 1) := by decide +kernel
theorem dX5_captured_8 : decode cX5_captured 8 = .ok (.iload_n 2, 1) := by decide +kernel
theorem dX5_captured_9 : decode cX5_captured 9 = .ok (.invokestatic 148, 3) := by decide +kernel
theorem dX5_captured_12 : decode cX5_captured 12 = .ok (.invokevirtual 26, 3) := by decide +kernel
theorem dX5_captured_15 : decode cX5_captured 15 = .ok (.goto 4, 3) := by decide +kernel
theorem dX5_captured_18 : decode cX5_captured 18 = .ok (.iconst 0, 1) := by decide +kernel
theorem dX5_captured_19 : decode cX5_captured 19 = .ok (.ireturn, 1) := by decide +kernel
theorem dX5_apply_0 : decode cX5_apply 0 = .ok (.aload_n 1, 1) := by decide +kernel
theorem dX5_apply_1 : decode cX5_apply 1 = .ok (.getfield 131, 3) := by decide +kernel
theorem dX5_apply_4 : decode cX5_apply 4 = .ok (.istore_n 3, 1) := by decide +kernel
theorem dX5_apply_5 : decode cX5_apply 5 = .ok (.aload_n 1, 1) := by decide +kernel
theorem dX5_apply_6 : decode cX5_apply 6 = .ok (.getfield 155, 3) := by decide +kernel
theorem dX5_apply_9 : decode cX5_apply 9 = .ok (.istore 4, 2) := by decide +kernel
theorem dX5_apply_11 : decode cX5_apply 11 = .ok (.aload_n 0, 1) := by decide +kernel
theorem dX5_apply_12 : decode cX5_apply 12 = .ok (.aload_n 1, 1) := by decide +kernel
theorem dX5_apply_13 : decode cX5_apply 13 = .ok (.iload_n 2, 1) := by decide +kernel
theorem dX5_apply_14 : decode cX5_apply 14 = .ok (.invokevirtual 137, 3) := by decide +kernel
theorem dX5_apply_17 : decode cX5_apply 17 = .ok (.istore 5, 2) := by decide +kernel
theorem dX5_apply_19 : decode cX5_apply 19 = .ok (.aload_n 0, 1) := by decide +kernel
theorem dX5_apply_20 : decode cX5_apply 20 = .ok (.aload_n 1, 1) := by decide +kernel
theorem dX5_apply_21 : decode cX5_apply 21 = .ok (.iload_n 2, 1) := by decide +kernel
theorem dX5_apply_22 : decode cX5_apply 22 = .ok (.invokevirtual 158, 3) := by decide +kernel
theorem dX5_apply_25 : decode cX5_apply 25 = .ok (.istore 6, 2) := by decide +kernel
theorem dX5_apply_27 : decode cX5_apply 27 = .ok (.iconst 0, 1) := by decide +kernel
theorem dX5_apply_28 : decode cX5_apply 28 = .ok (.istore 7, 2) := by decide +kernel
theorem dX5_apply_30 : decode cX5_apply 30 = .ok (.aload_n 1, 1) := by decide +kernel
theorem dX5_apply_31 : decode cX5_apply 31 = .ok (.dup, 1) := by decide +kernel
theorem dX5_apply_32 : decode cX5_apply 32 = .ok (.getfield 155, 3) := by decide +kernel
theorem dX5_apply_35 : decode cX5_apply 35 = .ok (.aload_n 0, 1) := by decide +kernel
theorem dX5_apply_36 : decode cX5_apply 36 = .ok (.iload_n 2, 1) := by decide +kernel
theorem dX5_apply_37 : decode cX5_apply 37 = .ok (.invokevirtual 161, 3) := by decide +kernel
theorem dX5_apply_40 : decode cX5_apply 40 = .ok (.iconst (-1), 1) := by decide +kernel
theorem dX5_apply_41 : decode cX5_apply 41 = .ok (.ixor, 1) := by decide +kernel
theorem dX5_apply_42 : decode cX5_apply 42 = .ok (.iand, 1) := by decide +kernel
theorem dX5_apply_43 : decode cX5_apply 43 = .ok (.putfield 155, 3) := by decide +kernel
theorem dX5_apply_46 : decode cX5_apply 46 = .ok (.iload_n 2, 1) := by decide +kernel
theorem dX5_apply_47 : decode cX5_apply 47 = .ok (.invokestatic 121, 3) := by decide +kernel
theorem dX5_apply_50 : decode cX5_apply 50 = .ok (.iconst 1, 1) := by decide +kernel
theorem dX5_apply_51 : decode cX5_apply 51 = .ok (.if_icmp .ne 17, 3) := by decide +kernel
theorem dX5_apply_54 : decode cX5_apply 54 = .ok (.aload_n 0, 1) := by decide +kernel
theorem dX5_apply_55 : decode cX5_apply 55 = .ok (.aload_n 1, 1) := by decide +kernel
theorem dX5_apply_56 : decode cX5_apply 56 = .ok (.iload_n 2, 1) := by decide +kernel
theorem dX5_apply_57 : decode cX5_apply 57 = .ok (.invokestatic 124, 3) := by decide +kernel
theorem dX5_apply_60 : decode cX5_apply 60 = .ok (.iconst 0, 1) := by decide +kernel
theorem dX5_apply_61 : decode cX5_apply 61 = .ok (.iconst 1, 1) := by decide +kernel
theorem dX5_apply_62 : decode cX5_apply 62 = .ok (.invokevirtual 164, 3) := by decide +kernel
theorem dX5_apply_65 : decode cX5_apply 65 = .ok (.goto 106, 3) := by decide +kernel
theorem dX5_apply_68 : decode cX5_apply 68 = .ok (.iload_n 2, 1) := by decide +kernel
theorem dX5_apply_69 : decode cX5_apply 69 = .ok (.invokestatic 121, 3) := by decide +kernel
theorem dX5_apply_72 : decode cX5_apply 72 = .ok (.ifCond .ne 78, 3) := by decide +kernel
theorem dX5_apply_75 : decode cX5_apply 75 = .ok (.aload_n 0, 1) := by decide +kernel
theorem dX5_apply_76 : decode cX5_apply 76 = .ok (.aload_n 1, 1) := by decide +kernel
theorem dX5_apply_77 : decode cX5_apply 77 = .ok (.iload_n 2, 1) := by decide +kernel
theorem dX5_apply_78 : decode cX5_apply 78 = .ok (.invokevirtual 168, 3) := by decide +kernel
theorem dX5_apply_81 : decode cX5_apply 81 = .ok (.istore 8, 2) := by decide +kernel
theorem dX5_apply_83 : decode cX5_apply 83 = .ok (.aload_n 1, 1) := by decide +kernel
theorem dX5_apply_84 : decode cX5_apply 84 = .ok (.iload_n 2, 1) := by decide +kernel
theorem dX5_apply_85 : decode cX5_apply 85 = .ok (.invokestatic 124, 3) := by decide +kernel
theorem dX5_apply_88 : decode cX5_apply 88 = .ok (.iconst 0, 1) := by decide +kernel
theorem dX5_apply_89 : decode cX5_apply 89 = .ok (.invokevirtual 171, 3) := by decide +kernel
theorem dX5_apply_92 : decode cX5_apply 92 = .ok (.aload_n 1, 1) := by decide +kernel
theorem dX5_apply_93 : decode cX5_apply 93 = .ok (.iload_n 2, 1) := by decide +kernel
theorem dX5_apply_94 : decode cX5_apply 94 = .ok (.invokestatic 148, 3) := by decide +kernel
theorem dX5_apply_97 : decode cX5_apply 97 = .ok (.iload 8, 2) := by decide +kernel
theorem dX5_apply_99 : decode cX5_apply 99 = .ok (.invokevirtual 171, 3) := by decide +kernel
theorem dX5_apply_102 : decode cX5_apply 102 = .ok (.iload 6, 2) := by decide +kernel
theorem dX5_apply_104 : decode cX5_apply 104 = .ok (.ifCond .eq 43, 3) := by decide +kernel
theorem dX5_apply_107 : decode cX5_apply 107 = .ok (.aload_n 0, 1) := by decide +kernel
theorem dX5_apply_108 : decode cX5_apply 108 = .ok (.getfield 9, 3) := by decide +kernel
theorem dX5_apply_111 : decode cX5_apply 111 = .ok (.getfield 175, 3) := by decide +kernel
theorem dX5_apply_114 : decode cX5_apply 114 = .ok (.iconst 1, 1) := by decide +kernel
theorem dX5_apply_115 : decode cX5_apply 115 = .ok (.if_icmp .ne 32, 3) := by decide +kernel
theorem dX5_apply_118 : decode cX5_apply 118 = .ok (.aload_n 1, 1) := by decide +kernel
theorem dX5_apply_119 : decode cX5_apply 119 = .ok (.iload_n 3, 1) := by decide +kernel
theorem dX5_apply_120 : decode cX5_apply 120 = .ok (.iload 6, 2) := by decide +kernel
theorem dX5_apply_122 : decode cX5_apply 122 = .ok (.invokestatic 47, 3) := by decide +kernel
theorem dX5_apply_125 : decode cX5_apply 125 = .ok (.invokevirtual 178, 3) := by decide +kernel
theorem dX5_apply_128 : decode cX5_apply 128 = .ok (.bipush 9, 2) := by decide +kernel
theorem dX5_apply_130 : decode cX5_apply 130 = .ok (.if_icmp .ge 17, 3) := by decide +kernel
theorem dX5_apply_133 : decode cX5_apply 133 = .ok (.aload_n 1, 1) := by decide +kernel
theorem dX5_apply_134 : decode cX5_apply 134 = .ok (.iload_n 3, 1) := by decide +kernel
theorem dX5_apply_135 : decode cX5_apply 135 = .ok (.iload 6, 2) := by decide +kernel
theorem dX5_apply_137 : decode cX5_apply 137 = .ok (.invokestatic 47, 3) := by decide +kernel
theorem dX5_apply_140 : decode cX5_apply 140 = .ok (.iconst 1, 1) := by decide +kernel
theorem dX5_apply_141 : decode cX5_apply 141 = .ok (.invokevirtual 181, 3) := by decide +kernel
theorem dX5_apply_144 : decode cX5_apply 144 = .ok (.iconst 1, 1) := by decide +kernel
theorem dX5_apply_145 : decode cX5_apply 145 = .ok (.istore 7, 2) := by decide +kernel
theorem dX5_apply_147 : decode cX5_apply 147 = .ok (.goto 24, 3) := by decide +kernel
theorem dX5_apply_150 : decode cX5_apply 150 = .ok (.aload_n 1, 1) := by decide +kernel
theorem dX5_apply_151 : decode cX5_apply 151 = .ok (.iload_n 2, 1) := by decide +kernel
theorem dX5_apply_152 : decode cX5_apply 152 = .ok (.invokestatic 148, 3) := by decide +kernel
theorem dX5_apply_155 : decode cX5_apply 155 = .ok (.iload 5, 2) := by decide +kernel
theorem dX5_apply_157 : decode cX5_apply 157 = .ok (.invokevirtual 171, 3) := by decide +kernel
theorem dX5_apply_160 : decode cX5_apply 160 = .ok (.aload_n 1, 1) := by decide +kernel
theorem dX5_apply_161 : decode cX5_apply 161 = .ok (.iload_n 3, 1) := by decide +kernel
theorem dX5_apply_162 : decode cX5_apply 162 = .ok (.iload 5, 2) := by decide +kernel
theorem dX5_apply_164 : decode cX5_apply 164 = .ok (.invokestatic 47, 3) := by decide +kernel
theorem dX5_apply_167 : decode cX5_apply 167 = .ok (.iconst (-1), 1) := by decide +kernel
theorem dX5_apply_168 : decode cX5_apply 168 = .ok (.invokevirtual 181, 3) := by decide +kernel
theorem dX5_apply_171 : decode cX5_apply 171 = .ok (.aload_n 1, 1) := by decide +kernel
theorem dX5_apply_172 : decode cX5_apply 172 = .ok (.iconst 1, 1) := by decide +kernel
theorem dX5_apply_173 : decode cX5_apply 173 = .ok (.iload_n 3, 1) := by decide +kernel
theorem dX5_apply_174 : decode cX5_apply 174 = .ok (.isub, 1) := by decide +kernel
theorem dX5_apply_175 : decode cX5_apply 175 = .ok (.putfield 131, 3) := by decide +kernel
theorem dX5_apply_178 : decode cX5_apply 178 = .ok (.iload 5, 2) := by decide +kernel
theorem dX5_apply_180 : decode cX5_apply 180 = .ok (.iload 6, 2) := by decide +kernel
theorem dX5_apply_182 : decode cX5_apply 182 = .ok (.iconst 4, 1) := by decide +kernel
theorem dX5_apply_183 : decode cX5_apply 183 = .ok (.ishl, 1) := by decide +kernel
theorem dX5_apply_184 : decode cX5_apply 184 = .ok (.ior, 1) := by decide +kernel
theorem dX5_apply_185 : decode cX5_apply 185 = .ok (.iload 7, 2) := by decide +kernel
theorem dX5_apply_187 : decode cX5_apply 187 = .ok (.bipush 8, 2) := by decide +kernel
theorem dX5_apply_189 : decode cX5_apply 189 = .ok (.ishl, 1) := by decide +kernel
theorem dX5_apply_190 : decode cX5_apply 190 = .ok (.ior, 1) := by decide +kernel
theorem dX5_apply_191 : decode cX5_apply 191 = .ok (.iload 4, 2) := by decide +kernel
theorem dX5_apply_193 : decode cX5_apply 193 = .ok (.bipush 9, 2) := by decide +kernel
theorem dX5_apply_195 : decode cX5_apply 195 = .ok (.ishl, 1) := by decide +kernel
theorem dX5_apply_196 : decode cX5_apply 196 = .ok (.ior, 1) := by decide +kernel
theorem dX5_apply_197 : decode cX5_apply 197 = .ok (.ireturn, 1) := by decide +kernel
theorem dX5_retract_0 : decode cX5_retract 0 = .ok (.iconst 1, 1) := by decide +kernel
theorem dX5_retract_1 : decode cX5_retract 1 = .ok (.aload_n 1, 1) := by decide +kernel
theorem dX5_retract_2 : decode cX5_retract 2 = .ok (.getfield 131, 3) := by decide +kernel
theorem dX5_retract_5 : decode cX5_retract 5 = .ok (.isub, 1) := by decide +kernel
theorem dX5_retract_6 : decode cX5_retract 6 = .ok (.istore 4, 2) := by decide +kernel
theorem dX5_retract_8 : decode cX5_retract 8 = .ok (.iload_n 3, 1) := by decide +kernel
theorem dX5_retract_9 : decode cX5_retract 9 = .ok (.bipush 15, 2) := by decide +kernel
theorem dX5_retract_11 : decode cX5_retract 11 = .ok (.iand, 1) := by decide +kernel
theorem dX5_retract_12 : decode cX5_retract 12 = .ok (.istore 5, 2) := by decide +kernel
theorem dX5_retract_14 : decode cX5_retract 14 = .ok (.iload_n 3, 1) := by decide +kernel
theorem dX5_retract_15 : decode cX5_retract 15 = .ok (.iconst 4, 1) := by decide +kernel
theorem dX5_retract_16 : decode cX5_retract 16 = .ok (.ishr, 1) := by decide +kernel
theorem dX5_retract_17 : decode cX5_retract 17 = .ok (.bipush 15, 2) := by decide +kernel
theorem dX5_retract_19 : decode cX5_retract 19 = .ok (.iand, 1) := by decide +kernel
theorem dX5_retract_20 : decode cX5_retract 20 = .ok (.istore 6, 2) := by decide +kernel
theorem dX5_retract_22 : decode cX5_retract 22 = .ok (.aload_n 1, 1) := by decide +kernel
theorem dX5_retract_23 : decode cX5_retract 23 = .ok (.iload 4, 2) := by decide +kernel
theorem dX5_retract_25 : decode cX5_retract 25 = .ok (.putfield 131, 3) := by decide +kernel
theorem dX5_retract_28 : decode cX5_retract 28 = .ok (.aload_n 1, 1) := by decide +kernel
theorem dX5_retract_29 : decode cX5_retract 29 = .ok (.iload_n 3, 1) := by decide +kernel
theorem dX5_retract_30 : decode cX5_retract 30 = .ok (.bipush 9, 2) := by decide +kernel
theorem dX5_retract_32 : decode cX5_retract 32 = .ok (.ishr, 1) := by decide +kernel
theorem dX5_retract_33 : decode cX5_retract 33 = .ok (.putfield 155, 3) := by decide +kernel
theorem dX5_retract_36 : decode cX5_retract 36 = .ok (.iload_n 2, 1) := by decide +kernel
theorem dX5_retract_37 : decode cX5_retract 37 = .ok (.invokestatic 121, 3) := by decide +kernel
theorem dX5_retract_40 : decode cX5_retract 40 = .ok (.iconst 1, 1) := by decide +kernel
theorem dX5_retract_41 : decode cX5_retract 41 = .ok (.if_icmp .ne 17, 3) := by decide +kernel
theorem dX5_retract_44 : decode cX5_retract 44 = .ok (.aload_n 0, 1) := by decide +kernel
theorem dX5_retract_45 : decode cX5_retract 45 = .ok (.aload_n 1, 1) := by decide +kernel
theorem dX5_retract_46 : decode cX5_retract 46 = .ok (.iload_n 2, 1) := by decide +kernel
theorem dX5_retract_47 : decode cX5_retract 47 = .ok (.invokestatic 124, 3) := by decide +kernel
theorem dX5_retract_50 : decode cX5_retract 50 = .ok (.iconst 1, 1) := by decide +kernel
theorem dX5_retract_51 : decode cX5_retract 51 = .ok (.iconst 0, 1) := by decide +kernel
theorem dX5_retract_52 : decode cX5_retract 52 = .ok (.invokevirtual 164, 3) := by decide +kernel
theorem dX5_retract_55 : decode cX5_retract 55 = .ok (.goto 75, 3) := by decide +kernel
theorem dX5_retract_58 : decode cX5_retract 58 = .ok (.iload_n 2, 1) := by decide +kernel
theorem dX5_retract_59 : decode cX5_retract 59 = .ok (.invokestatic 121, 3) := by decide +kernel
theorem dX5_retract_62 : decode cX5_retract 62 = .ok (.ifCond .ne 47, 3) := by decide +kernel
theorem dX5_retract_65 : decode cX5_retract 65 = .ok (.aload_n 1, 1) := by decide +kernel
theorem dX5_retract_66 : decode cX5_retract 66 = .ok (.iload_n 2, 1) := by decide +kernel
theorem dX5_retract_67 : decode cX5_retract 67 = .ok (.invokestatic 124, 3) := by decide +kernel
theorem dX5_retract_70 : decode cX5_retract 70 = .ok (.iload 5, 2) := by decide +kernel
theorem dX5_retract_72 : decode cX5_retract 72 = .ok (.invokevirtual 171, 3) := by decide +kernel
theorem dX5_retract_75 : decode cX5_retract 75 = .ok (.aload_n 1, 1) := by decide +kernel
theorem dX5_retract_76 : decode cX5_retract 76 = .ok (.iload_n 2, 1) := by decide +kernel
theorem dX5_retract_77 : decode cX5_retract 77 = .ok (.invokestatic 148, 3) := by decide +kernel
theorem dX5_retract_80 : decode cX5_retract 80 = .ok (.iload 6, 2) := by decide +kernel
theorem dX5_retract_82 : decode cX5_retract 82 = .ok (.invokevirtual 171, 3) := by decide +kernel
theorem dX5_retract_85 : decode cX5_retract 85 = .ok (.iload_n 3, 1) := by decide +kernel
theorem dX5_retract_86 : decode cX5_retract 86 = .ok (.bipush 8, 2) := by decide +kernel
theorem dX5_retract_88 : decode cX5_retract 88 = .ok (.ishr, 1) := by decide +kernel
theorem dX5_retract_89 : decode cX5_retract 89 = .ok (.iconst 1, 1) := by decide +kernel
theorem dX5_retract_90 : decode cX5_retract 90 = .ok (.iand, 1) := by decide +kernel
theorem dX5_retract_91 : decode cX5_retract 91 = .ok (.ifCond .eq 39, 3) := by decide +kernel
theorem dX5_retract_94 : decode cX5_retract 94 = .ok (.aload_n 1, 1) := by decide +kernel
theorem dX5_retract_95 : decode cX5_retract 95 = .ok (.iload 4, 2) := by decide +kernel
theorem dX5_retract_97 : decode cX5_retract 97 = .ok (.iload 6, 2) := by decide +kernel
theorem dX5_retract_99 : decode cX5_retract 99 = .ok (.invokestatic 47, 3) := by decide +kernel
theorem dX5_retract_102 : decode cX5_retract 102 = .ok (.iconst (-1), 1) := by decide +kernel
theorem dX5_retract_103 : decode cX5_retract 103 = .ok (.invokevirtual 181, 3) := by decide +kernel
theorem dX5_retract_106 : decode cX5_retract 106 = .ok (.goto 24, 3) := by decide +kernel
theorem dX5_retract_109 : decode cX5_retract 109 = .ok (.aload_n 1, 1) := by decide +kernel
theorem dX5_retract_110 : decode cX5_retract 110 = .ok (.iload_n 2, 1) := by decide +kernel
theorem dX5_retract_111 : decode cX5_retract 111 = .ok (.invokestatic 148, 3) := by decide +kernel
theorem dX5_retract_114 : decode cX5_retract 114 = .ok (.iconst 0, 1) := by decide +kernel
theorem dX5_retract_115 : decode cX5_retract 115 = .ok (.invokevirtual 171, 3) := by decide +kernel
theorem dX5_retract_118 : decode cX5_retract 118 = .ok (.aload_n 1, 1) := by decide +kernel
theorem dX5_retract_119 : decode cX5_retract 119 = .ok (.iload 4, 2) := by decide +kernel
theorem dX5_retract_121 : decode cX5_retract 121 = .ok (.iload 5, 2) := by decide +kernel
theorem dX5_retract_123 : decode cX5_retract 123 = .ok (.invokestatic 47, 3) := by decide +kernel
theorem dX5_retract_126 : decode cX5_retract 126 = .ok (.iconst 1, 1) := by decide +kernel
theorem dX5_retract_127 : decode cX5_retract 127 = .ok (.invokevirtual 181, 3) := by decide +kernel
theorem dX5_retract_130 : decode cX5_retract 130 = .ok (.return_, 1) := by decide +kernel
theorem dX5_moveTwo_0 : decode cX5_moveTwo 0 = .ok (.aload_n 0, 1) := by decide +kernel
theorem dX5_moveTwo_1 : decode cX5_moveTwo 1 = .ok (.getfield 9, 3) := by decide +kernel
theorem dX5_moveTwo_4 : decode cX5_moveTwo 4 = .ok (.iload_n 2, 1) := by decide +kernel
theorem dX5_moveTwo_5 : decode cX5_moveTwo 5 = .ok (.iload_n 3, 1) := by decide +kernel
theorem dX5_moveTwo_6 : decode cX5_moveTwo 6 = .ok (.invokevirtual 127, 3) := by decide +kernel
theorem dX5_moveTwo_9 : decode cX5_moveTwo 9 = .ok (.istore 5, 2) := by decide +kernel
theorem dX5_moveTwo_11 : decode cX5_moveTwo 11 = .ok (.aload_n 0, 1) := by decide +kernel
theorem dX5_moveTwo_12 : decode cX5_moveTwo 12 = .ok (.getfield 9, 3) := by decide +kernel
theorem dX5_moveTwo_15 : decode cX5_moveTwo 15 = .ok (.iload_n 2, 1) := by decide +kernel
theorem dX5_moveTwo_16 : decode cX5_moveTwo 16 = .ok (.iconst 2, 1) := by decide +kernel
theorem dX5_moveTwo_17 : decode cX5_moveTwo 17 = .ok (.iload_n 3, 1) := by decide +kernel
theorem dX5_moveTwo_18 : decode cX5_moveTwo 18 = .ok (.iadd, 1) := by decide +kernel
theorem dX5_moveTwo_19 : decode cX5_moveTwo 19 = .ok (.invokevirtual 127, 3) := by decide +kernel
theorem dX5_moveTwo_22 : decode cX5_moveTwo 22 = .ok (.istore 6, 2) := by decide +kernel
theorem dX5_moveTwo_24 : decode cX5_moveTwo 24 = .ok (.aload_n 1, 1) := by decide +kernel
theorem dX5_moveTwo_25 : decode cX5_moveTwo 25 = .ok (.iload 5, 2) := by decide +kernel
theorem dX5_moveTwo_27 : decode cX5_moveTwo 27 = .ok (.invokevirtual 26, 3) := by decide +kernel
theorem dX5_moveTwo_30 : decode cX5_moveTwo 30 = .ok (.istore 7, 2) := by decide +kernel
theorem dX5_moveTwo_32 : decode cX5_moveTwo 32 = .ok (.aload_n 1, 1) := by decide +kernel
theorem dX5_moveTwo_33 : decode cX5_moveTwo 33 = .ok (.iload 6, 2) := by decide +kernel
theorem dX5_moveTwo_35 : decode cX5_moveTwo 35 = .ok (.invokevirtual 26, 3) := by decide +kernel
theorem dX5_moveTwo_38 : decode cX5_moveTwo 38 = .ok (.istore 8, 2) := by decide +kernel
theorem dX5_moveTwo_40 : decode cX5_moveTwo 40 = .ok (.aload_n 1, 1) := by decide +kernel
theorem dX5_moveTwo_41 : decode cX5_moveTwo 41 = .ok (.iload 5, 2) := by decide +kernel
theorem dX5_moveTwo_43 : decode cX5_moveTwo 43 = .ok (.iconst 0, 1) := by decide +kernel
theorem dX5_moveTwo_44 : decode cX5_moveTwo 44 = .ok (.invokevirtual 171, 3) := by decide +kernel
theorem dX5_moveTwo_47 : decode cX5_moveTwo 47 = .ok (.aload_n 1, 1) := by decide +kernel
theorem dX5_moveTwo_48 : decode cX5_moveTwo 48 = .ok (.iload 6, 2) := by decide +kernel
theorem dX5_moveTwo_50 : decode cX5_moveTwo 50 = .ok (.iconst 0, 1) := by decide +kernel
theorem dX5_moveTwo_51 : decode cX5_moveTwo 51 = .ok (.invokevirtual 171, 3) := by decide +kernel
theorem dX5_moveTwo_54 : decode cX5_moveTwo 54 = .ok (.aload_n 1, 1) := by decide +kernel
theorem dX5_moveTwo_55 : decode cX5_moveTwo 55 = .ok (.aload_n 0, 1) := by decide +kernel
theorem dX5_moveTwo_56 : decode cX5_moveTwo 56 = .ok (.getfield 9, 3) := by decide +kernel
theorem dX5_moveTwo_59 : decode cX5_moveTwo 59 = .ok (.iload_n 2, 1) := by decide +kernel
theorem dX5_moveTwo_60 : decode cX5_moveTwo 60 = .ok (.iload 4, 2) := by decide +kernel
theorem dX5_moveTwo_62 : decode cX5_moveTwo 62 = .ok (.invokevirtual 127, 3) := by decide +kernel
theorem dX5_moveTwo_65 : decode cX5_moveTwo 65 = .ok (.iload 7, 2) := by decide +kernel
theorem dX5_moveTwo_67 : decode cX5_moveTwo 67 = .ok (.invokevirtual 171, 3) := by decide +kernel
theorem dX5_moveTwo_70 : decode cX5_moveTwo 70 = .ok (.aload_n 1, 1) := by decide +kernel
theorem dX5_moveTwo_71 : decode cX5_moveTwo 71 = .ok (.aload_n 0, 1) := by decide +kernel
theorem dX5_moveTwo_72 : decode cX5_moveTwo 72 = .ok (.getfield 9, 3) := by decide +kernel
theorem dX5_moveTwo_75 : decode cX5_moveTwo 75 = .ok (.iload_n 2, 1) := by decide +kernel
theorem dX5_moveTwo_76 : decode cX5_moveTwo 76 = .ok (.iconst 2, 1) := by decide +kernel
theorem dX5_moveTwo_77 : decode cX5_moveTwo 77 = .ok (.iload 4, 2) := by decide +kernel
theorem dX5_moveTwo_79 : decode cX5_moveTwo 79 = .ok (.iadd, 1) := by decide +kernel
theorem dX5_moveTwo_80 : decode cX5_moveTwo 80 = .ok (.invokevirtual 127, 3) := by decide +kernel
theorem dX5_moveTwo_83 : decode cX5_moveTwo 83 = .ok (.iload 8, 2) := by decide +kernel
theorem dX5_moveTwo_85 : decode cX5_moveTwo 85 = .ok (.invokevirtual 171, 3) := by decide +kernel
theorem dX5_moveTwo_88 : decode cX5_moveTwo 88 = .ok (.return_, 1) := by decide +kernel
theorem dX5_rightsTouched_0 : decode cX5_rightsTouched 0 = .ok (.lconst 0, 1) := by decide +kernel
theorem dX5_rightsTouched_1 : decode cX5_rightsTouched 1 = .ok (.lstore_n 2, 1) := by decide +kernel
theorem dX5_rightsTouched_2 : decode cX5_rightsTouched 2 = .ok (.iload_n 1, 1) := by decide +kernel
theorem dX5_rightsTouched_3 : decode cX5_rightsTouched 3 = .ok (.invokestatic 121, 3) := by decide +kernel
theorem dX5_rightsTouched_6 : decode cX5_rightsTouched 6 = .ok (.iconst 1, 1) := by decide +kernel
theorem dX5_rightsTouched_7 : decode cX5_rightsTouched 7 = .ok (.if_icmp .ne 39, 3) := by decide +kernel
theorem dX5_rightsTouched_10 : decode cX5_rightsTouched 10 = .ok (.iconst 0, 1) := by decide +kernel
theorem dX5_rightsTouched_11 : decode cX5_rightsTouched 11 = .ok (.istore 4, 2) := by decide +kernel
theorem dX5_rightsTouched_13 : decode cX5_rightsTouched 13 = .ok (.iload 4, 2) := by decide +kernel
theorem dX5_rightsTouched_15 : decode cX5_rightsTouched 15 = .ok (.iconst 4, 1) := by decide +kernel
theorem dX5_rightsTouched_16 : decode cX5_rightsTouched 16 = .ok (.if_icmp .ge 27, 3) := by decide +kernel
theorem dX5_rightsTouched_19 : decode cX5_rightsTouched 19 = .ok (.lload_n 2, 1) := by decide +kernel
theorem dX5_rightsTouched_20 : decode cX5_rightsTouched 20 = .ok (.lconst 1, 1) := by decide +kernel
theorem dX5_rightsTouched_21 : decode cX5_rightsTouched 21 = .ok (.aload_n 0, 1) := by decide +kernel
theorem dX5_rightsTouched_22 : decode cX5_rightsTouched 22 = .ok (.getfield 9, 3) := by decide +kernel
theorem dX5_rightsTouched_25 : decode cX5_rightsTouched 25 = .ok (.iload_n 1, 1) := by decide +kernel
theorem dX5_rightsTouched_26 : decode cX5_rightsTouched 26 = .ok (.invokestatic 124, 3) := by decide +kernel
theorem dX5_rightsTouched_29 : decode cX5_rightsTouched 29 = .ok (.iload 4, 2) := by decide +kernel
theorem dX5_rightsTouched_31 : decode cX5_rightsTouched 31 = .ok (.invokevirtual 127, 3) := by decide +kernel
theorem dX5_rightsTouched_34 : decode cX5_rightsTouched 34 = .ok (.lshl, 1) := by decide +kernel
theorem dX5_rightsTouched_35 : decode cX5_rightsTouched 35 = .ok (.lor, 1) := by decide +kernel
theorem dX5_rightsTouched_36 : decode cX5_rightsTouched 36 = .ok (.lstore_n 2, 1) := by decide +kernel
theorem dX5_rightsTouched_37 : decode cX5_rightsTouched 37 = .ok (.iinc 4 1, 3) := by decide +kernel
theorem dX5_rightsTouched_40 : decode cX5_rightsTouched 40 = .ok (.goto (-27), 3) := by decide +kernel
theorem dX5_rightsTouched_43 : decode cX5_rightsTouched 43 = .ok (.goto 26, 3) := by decide +kernel
theorem dX5_rightsTouched_46 : decode cX5_rightsTouched 46 = .ok (.lconst 1, 1) := by decide +kernel
theorem dX5_rightsTouched_47 : decode cX5_rightsTouched 47 = .ok (.iload_n 1, 1) := by decide +kernel
theorem dX5_rightsTouched_48 : decode cX5_rightsTouched 48 = .ok (.invokestatic 148, 3) := by decide +kernel
theorem dX5_rightsTouched_51 : decode cX5_rightsTouched 51 = .ok (.lshl, 1) := by decide +kernel
theorem dX5_rightsTouched_52 : decode cX5_rightsTouched 52 = .ok (.lstore_n 2, 1) := by decide +kernel
theorem dX5_rightsTouched_53 : decode cX5_rightsTouched 53 = .ok (.iload_n 1, 1) := by decide +kernel
theorem dX5_rightsTouched_54 : decode cX5_rightsTouched 54 = .ok (.invokestatic 121, 3) := by decide +kernel
theorem dX5_rightsTouched_57 : decode cX5_rightsTouched 57 = .ok (.ifCond .ne 12, 3) := by decide +kernel
theorem dX5_rightsTouched_60 : decode cX5_rightsTouched 60 = .ok (.lload_n 2, 1) := by decide +kernel
theorem dX5_rightsTouched_61 : decode cX5_rightsTouched 61 = .ok (.lconst 1, 1) := by decide +kernel
theorem dX5_rightsTouched_62 : decode cX5_rightsTouched 62 = .ok (.iload_n 1, 1) := by decide +kernel
theorem dX5_rightsTouched_63 : decode cX5_rightsTouched 63 = .ok (.invokestatic 124, 3) := by decide +kernel
theorem dX5_rightsTouched_66 : decode cX5_rightsTouched 66 = .ok (.lshl, 1) := by decide +kernel
theorem dX5_rightsTouched_67 : decode cX5_rightsTouched 67 = .ok (.lor, 1) := by decide +kernel
theorem dX5_rightsTouched_68 : decode cX5_rightsTouched 68 = .ok (.lstore_n 2, 1) := by decide +kernel
theorem dX5_rightsTouched_69 : decode cX5_rightsTouched 69 = .ok (.iconst 0, 1) := by decide +kernel
theorem dX5_rightsTouched_70 : decode cX5_rightsTouched 70 = .ok (.istore 4, 2) := by decide +kernel
theorem dX5_rightsTouched_72 : decode cX5_rightsTouched 72 = .ok (.iconst 0, 1) := by decide +kernel
theorem dX5_rightsTouched_73 : decode cX5_rightsTouched 73 = .ok (.istore 5, 2) := by decide +kernel
theorem dX5_rightsTouched_75 : decode cX5_rightsTouched 75 = .ok (.iload 5, 2) := by decide +kernel
theorem dX5_rightsTouched_77 : decode cX5_rightsTouched 77 = .ok (.iconst 4, 1) := by decide +kernel
theorem dX5_rightsTouched_78 : decode cX5_rightsTouched 78 = .ok (.if_icmp .ge 52, 3) := by decide +kernel
theorem dX5_rightsTouched_81 : decode cX5_rightsTouched 81 = .ok (.lload_n 2, 1) := by decide +kernel
theorem dX5_rightsTouched_82 : decode cX5_rightsTouched 82 = .ok (.aload_n 0, 1) := by decide +kernel
theorem dX5_rightsTouched_83 : decode cX5_rightsTouched 83 = .ok (.getfield 9, 3) := by decide +kernel
theorem dX5_rightsTouched_86 : decode cX5_rightsTouched 86 = .ok (.iload 5, 2) := by decide +kernel
theorem dX5_rightsTouched_88 : decode cX5_rightsTouched 88 = .ok (.iconst 0, 1) := by decide +kernel
theorem dX5_rightsTouched_89 : decode cX5_rightsTouched 89 = .ok (.invokevirtual 127, 3) := by decide +kernel
theorem dX5_rightsTouched_92 : decode cX5_rightsTouched 92 = .ok (.invokestatic 99, 3) := by decide +kernel
theorem dX5_rightsTouched_95 : decode cX5_rightsTouched 95 = .ok (.ifCond .ne 20, 3) := by decide +kernel
theorem dX5_rightsTouched_98 : decode cX5_rightsTouched 98 = .ok (.lload_n 2, 1) := by decide +kernel
theorem dX5_rightsTouched_99 : decode cX5_rightsTouched 99 = .ok (.aload_n 0, 1) := by decide +kernel
theorem dX5_rightsTouched_100 : decode cX5_rightsTouched 100 = .ok (.getfield 9, 3) := by decide +kernel
theorem dX5_rightsTouched_103 : decode cX5_rightsTouched 103 = .ok (.iload 5, 2) := by decide +kernel
theorem dX5_rightsTouched_105 : decode cX5_rightsTouched 105 = .ok (.iconst 2, 1) := by decide +kernel
theorem dX5_rightsTouched_106 : decode cX5_rightsTouched 106 = .ok (.invokevirtual 127, 3) := by decide +kernel
theorem dX5_rightsTouched_109 : decode cX5_rightsTouched 109 = .ok (.invokestatic 99, 3) := by decide +kernel
theorem dX5_rightsTouched_112 : decode cX5_rightsTouched 112 = .ok (.ifCond .eq 12, 3) := by decide +kernel
theorem dX5_rightsTouched_115 : decode cX5_rightsTouched 115 = .ok (.iload 4, 2) := by decide +kernel
theorem dX5_rightsTouched_117 : decode cX5_rightsTouched 117 = .ok (.iconst 1, 1) := by decide +kernel
theorem dX5_rightsTouched_118 : decode cX5_rightsTouched 118 = .ok (.iload 5, 2) := by decide +kernel
theorem dX5_rightsTouched_120 : decode cX5_rightsTouched 120 = .ok (.ishl, 1) := by decide +kernel
theorem dX5_rightsTouched_121 : decode cX5_rightsTouched 121 = .ok (.ior, 1) := by decide +kernel
theorem dX5_rightsTouched_122 : decode cX5_rightsTouched 122 = .ok (.istore 4, 2) := by decide +kernel
theorem dX5_rightsTouched_124 : decode cX5_rightsTouched 124 = .ok (.iinc 5 1, 3) := by decide +kernel
theorem dX5_rightsTouched_127 : decode cX5_rightsTouched 127 = .ok (.goto (-52), 3) := by decide +kernel
theorem dX5_rightsTouched_130 : decode cX5_rightsTouched 130 = .ok (.iload 4, 2) := by decide +kernel
theorem dX5_rightsTouched_132 : decode cX5_rightsTouched 132 = .ok (.ireturn, 1) := by decide +kernel
theorem dX5_listLegal_0 : decode cX5_listLegal 0 = .ok (.aload_n 0, 1) := by decide +kernel
theorem dX5_listLegal_1 : decode cX5_listLegal 1 = .ok (.aload_n 1, 1) := by decide +kernel
theorem dX5_listLegal_2 : decode cX5_listLegal 2 = .ok (.aload_n 2, 1) := by decide +kernel
theorem dX5_listLegal_3 : decode cX5_listLegal 3 = .ok (.invokevirtual 185, 3) := by decide +kernel
theorem dX5_listLegal_6 : decode cX5_listLegal 6 = .ok (.aload_n 1, 1) := by decide +kernel
theorem dX5_listLegal_7 : decode cX5_listLegal 7 = .ok (.getfield 131, 3) := by decide +kernel
theorem dX5_listLegal_10 : decode cX5_listLegal 10 = .ok (.istore_n 3, 1) := by decide +kernel
theorem dX5_listLegal_11 : decode cX5_listLegal 11 = .ok (.iconst 0, 1) := by decide +kernel
theorem dX5_listLegal_12 : decode cX5_listLegal 12 = .ok (.istore 4, 2) := by decide +kernel
theorem dX5_listLegal_14 : decode cX5_listLegal 14 = .ok (.iconst 0, 1) := by decide +kernel
theorem dX5_listLegal_15 : decode cX5_listLegal 15 = .ok (.istore 5, 2) := by decide +kernel
theorem dX5_listLegal_17 : decode cX5_listLegal 17 = .ok (.iload 5, 2) := by decide +kernel
theorem dX5_listLegal_19 : decode cX5_listLegal 19 = .ok (.aload_n 2, 1) := by decide +kernel
theorem dX5_listLegal_20 : decode cX5_listLegal 20 = .ok (.getfield 189, 3) := by decide +kernel
theorem dX5_listLegal_23 : decode cX5_listLegal 23 = .ok (.if_icmp .ge 58, 3) := by decide +kernel
theorem dX5_listLegal_26 : decode cX5_listLegal 26 = .ok (.aload_n 2, 1) := by decide +kernel
theorem dX5_listLegal_27 : decode cX5_listLegal 27 = .ok (.iload 5, 2) := by decide +kernel
theorem dX5_listLegal_29 : decode cX5_listLegal 29 = .ok (.invokevirtual 194, 3) := by decide +kernel
theorem dX5_listLegal_32 : decode cX5_listLegal 32 = .ok (.istore 6, 2) := by decide +kernel
theorem dX5_listLegal_34 : decode cX5_listLegal 34 = .ok (.aload_n 0, 1) := by decide +kernel
theorem dX5_listLegal_35 : decode cX5_listLegal 35 = .ok (.aload_n 1, 1) := by decide +kernel
theorem dX5_listLegal_36 : decode cX5_listLegal 36 = .ok (.iload 6, 2) := by decide +kernel
theorem dX5_listLegal_38 : decode cX5_listLegal 38 = .ok (.invokevirtual 197, 3) := by decide +kernel
theorem dX5_listLegal_41 : decode cX5_listLegal 41 = .ok (.istore 7, 2) := by decide +kernel
theorem dX5_listLegal_43 : decode cX5_listLegal 43 = .ok (.aload_n 0, 1) := by decide +kernel
theorem dX5_listLegal_44 : decode cX5_listLegal 44 = .ok (.aload_n 1, 1) := by decide +kernel
theorem dX5_listLegal_45 : decode cX5_listLegal 45 = .ok (.iload_n 3, 1) := by decide +kernel
theorem dX5_listLegal_46 : decode cX5_listLegal 46 = .ok (.invokevirtual 200, 3) := by decide +kernel
theorem dX5_listLegal_49 : decode cX5_listLegal 49 = .ok (.ifCond .eq 17, 3) := by decide +kernel
theorem dX5_listLegal_52 : decode cX5_listLegal 52 = .ok (.aload_n 2, 1) := by decide +kernel
theorem dX5_listLegal_53 : decode cX5_listLegal 53 = .ok (.getfield 203, 3) := by decide +kernel
theorem dX5_listLegal_56 : decode cX5_listLegal 56 = .ok (.iload 4, 2) := by decide +kernel
theorem dX5_listLegal_58 : decode cX5_listLegal 58 = .ok (.iload 6, 2) := by decide +kernel
theorem dX5_listLegal_60 : decode cX5_listLegal 60 = .ok (.invokestatic 206, 3) := by decide +kernel
theorem dX5_listLegal_63 : decode cX5_listLegal 63 = .ok (.iinc 4 1, 3) := by decide +kernel
theorem dX5_listLegal_66 : decode cX5_listLegal 66 = .ok (.aload_n 0, 1) := by decide +kernel
theorem dX5_listLegal_67 : decode cX5_listLegal 67 = .ok (.aload_n 1, 1) := by decide +kernel
theorem dX5_listLegal_68 : decode cX5_listLegal 68 = .ok (.iload 6, 2) := by decide +kernel
theorem dX5_listLegal_70 : decode cX5_listLegal 70 = .ok (.iload 7, 2) := by decide +kernel
theorem dX5_listLegal_72 : decode cX5_listLegal 72 = .ok (.invokevirtual 210, 3) := by decide +kernel
theorem dX5_listLegal_75 : decode cX5_listLegal 75 = .ok (.iinc 5 1, 3) := by decide +kernel
theorem dX5_listLegal_78 : decode cX5_listLegal 78 = .ok (.goto (-61), 3) := by decide +kernel
theorem dX5_listLegal_81 : decode cX5_listLegal 81 = .ok (.aload_n 2, 1) := by decide +kernel
theorem dX5_listLegal_82 : decode cX5_listLegal 82 = .ok (.iload 4, 2) := by decide +kernel
theorem dX5_listLegal_84 : decode cX5_listLegal 84 = .ok (.putfield 189, 3) := by decide +kernel
theorem dX5_listLegal_87 : decode cX5_listLegal 87 = .ok (.return_, 1) := by decide +kernel
theorem dX5_listCandidates_0 : decode cX5_listCandidates 0 = .ok (.aload_n 2, 1) := by decide +kernel
theorem dX5_listCandidates_1 : decode cX5_listCandidates 1 = .ok (.iconst 0, 1) := by decide +kernel
theorem dX5_listCandidates_2 : decode cX5_listCandidates 2 = .ok (.putfield 189, 3) := by decide +kernel
theorem dX5_listCandidates_5 : decode cX5_listCandidates 5 = .ok (.iconst 0, 1) := by decide +kernel
theorem dX5_listCandidates_6 : decode cX5_listCandidates 6 = .ok (.istore_n 3, 1) := by decide +kernel
theorem dX5_listCandidates_7 : decode cX5_listCandidates 7 = .ok (.iload_n 3, 1) := by decide +kernel
theorem dX5_listCandidates_8 : decode cX5_listCandidates 8 = .ok (.aload_n 1, 1) := by decide +kernel
theorem dX5_listCandidates_9 : decode cX5_listCandidates 9 = .ok (.invokevirtual 95, 3) := by decide +kernel
theorem dX5_listCandidates_12 : decode cX5_listCandidates 12 = .ok (.if_icmp .ge 31, 3) := by decide +kernel
theorem dX5_listCandidates_15 : decode cX5_listCandidates 15 = .ok (.aload_n 1, 1) := by decide +kernel
theorem dX5_listCandidates_16 : decode cX5_listCandidates 16 = .ok (.aload_n 1, 1) := by decide +kernel
theorem dX5_listCandidates_17 : decode cX5_listCandidates 17 = .ok (.getfield 131, 3) := by decide +kernel
theorem dX5_listCandidates_20 : decode cX5_listCandidates 20 = .ok (.invokevirtual 33, 3) := by decide +kernel
theorem dX5_listCandidates_23 : decode cX5_listCandidates 23 = .ok (.iload_n 3, 1) := by decide +kernel
theorem dX5_listCandidates_24 : decode cX5_listCandidates 24 = .ok (.invokestatic 99, 3) := by decide +kernel
theorem dX5_listCandidates_27 : decode cX5_listCandidates 27 = .ok (.ifCond .eq 10, 3) := by decide +kernel
theorem dX5_listCandidates_30 : decode cX5_listCandidates 30 = .ok (.aload_n 0, 1) := by decide +kernel
theorem dX5_listCandidates_31 : decode cX5_listCandidates 31 = .ok (.aload_n 1, 1) := by decide +kernel
theorem dX5_listCandidates_32 : decode cX5_listCandidates 32 = .ok (.iload_n 3, 1) := by decide +kernel
theorem dX5_listCandidates_33 : decode cX5_listCandidates 33 = .ok (.aload_n 2, 1) := by decide +kernel
theorem dX5_listCandidates_34 : decode cX5_listCandidates 34 = .ok (.invokevirtual 214, 3) := by decide +kernel
theorem dX5_listCandidates_37 : decode cX5_listCandidates 37 = .ok (.iinc 3 1, 3) := by decide +kernel
theorem dX5_listCandidates_40 : decode cX5_listCandidates 40 = .ok (.goto (-33), 3) := by decide +kernel
theorem dX5_listCandidates_43 : decode cX5_listCandidates 43 = .ok (.iconst 0, 1) := by decide +kernel
theorem dX5_listCandidates_44 : decode cX5_listCandidates 44 = .ok (.istore_n 3, 1) := by decide +kernel
theorem dX5_listCandidates_45 : decode cX5_listCandidates 45 = .ok (.iload_n 3, 1) := by decide +kernel
theorem dX5_listCandidates_46 : decode cX5_listCandidates 46 = .ok (.iconst 4, 1) := by decide +kernel
theorem dX5_listCandidates_47 : decode cX5_listCandidates 47 = .ok (.if_icmp .ge 28, 3) := by decide +kernel
theorem dX5_listCandidates_50 : decode cX5_listCandidates 50 = .ok (.aload_n 0, 1) := by decide +kernel
theorem dX5_listCandidates_51 : decode cX5_listCandidates 51 = .ok (.aload_n 1, 1) := by decide +kernel
theorem dX5_listCandidates_52 : decode cX5_listCandidates 52 = .ok (.iload_n 3, 1) := by decide +kernel
theorem dX5_listCandidates_53 : decode cX5_listCandidates 53 = .ok (.invokevirtual 218, 3) := by decide +kernel
theorem dX5_listCandidates_56 : decode cX5_listCandidates 56 = .ok (.ifCond .eq 13, 3) := by decide +kernel
theorem dX5_listCandidates_59 : decode cX5_listCandidates 59 = .ok (.aload_n 2, 1) := by decide +kernel
theorem dX5_listCandidates_60 : decode cX5_listCandidates 60 = .ok (.iconst 1, 1) := by decide +kernel
theorem dX5_listCandidates_61 : decode cX5_listCandidates 61 = .ok (.iload_n 3, 1) := by decide +kernel
theorem dX5_listCandidates_62 : decode cX5_listCandidates 62 = .ok (.iconst 0, 1) := by decide +kernel
theorem dX5_listCandidates_63 : decode cX5_listCandidates 63 = .ok (.invokestatic 221, 3) := by decide +kernel
theorem dX5_listCandidates_66 : decode cX5_listCandidates 66 = .ok (.invokevirtual 225, 3) := by decide +kernel
theorem dX5_listCandidates_69 : decode cX5_listCandidates 69 = .ok (.iinc 3 1, 3) := by decide +kernel
theorem dX5_listCandidates_72 : decode cX5_listCandidates 72 = .ok (.goto (-27), 3) := by decide +kernel
theorem dX5_listCandidates_75 : decode cX5_listCandidates 75 = .ok (.iconst 0, 1) := by decide +kernel
theorem dX5_listCandidates_76 : decode cX5_listCandidates 76 = .ok (.istore_n 3, 1) := by decide +kernel
theorem dX5_listCandidates_77 : decode cX5_listCandidates 77 = .ok (.iload_n 3, 1) := by decide +kernel
theorem dX5_listCandidates_78 : decode cX5_listCandidates 78 = .ok (.bipush 6, 2) := by decide +kernel
theorem dX5_listCandidates_80 : decode cX5_listCandidates 80 = .ok (.if_icmp .ge 39, 3) := by decide +kernel
theorem dX5_listCandidates_83 : decode cX5_listCandidates 83 = .ok (.aload_n 0, 1) := by decide +kernel
theorem dX5_listCandidates_84 : decode cX5_listCandidates 84 = .ok (.getfield 9, 3) := by decide +kernel
theorem dX5_listCandidates_87 : decode cX5_listCandidates 87 = .ok (.getfield 175, 3) := by decide +kernel
theorem dX5_listCandidates_90 : decode cX5_listCandidates 90 = .ok (.iconst 1, 1) := by decide +kernel
theorem dX5_listCandidates_91 : decode cX5_listCandidates 91 = .ok (.if_icmp .ne 28, 3) := by decide +kernel
theorem dX5_listCandidates_94 : decode cX5_listCandidates 94 = .ok (.aload_n 1, 1) := by decide +kernel
theorem dX5_listCandidates_95 : decode cX5_listCandidates 95 = .ok (.aload_n 1, 1) := by decide +kernel
theorem dX5_listCandidates_96 : decode cX5_listCandidates 96 = .ok (.getfield 131, 3) := by decide +kernel
theorem dX5_listCandidates_99 : decode cX5_listCandidates 99 = .ok (.iload_n 3, 1) := by decide +kernel
theorem dX5_listCandidates_100 : decode cX5_listCandidates 100 = .ok (.invokevirtual 178, 3) := by decide +kernel
theorem dX5_listCandidates_103 : decode cX5_listCandidates 103 = .ok (.ifCond .le 10, 3) := by decide +kernel
theorem dX5_listCandidates_106 : decode cX5_listCandidates 106 = .ok (.aload_n 0, 1) := by decide +kernel
theorem dX5_listCandidates_107 : decode cX5_listCandidates 107 = .ok (.aload_n 1, 1) := by decide +kernel
theorem dX5_listCandidates_108 : decode cX5_listCandidates 108 = .ok (.iload_n 3, 1) := by decide +kernel
theorem dX5_listCandidates_109 : decode cX5_listCandidates 109 = .ok (.aload_n 2, 1) := by decide +kernel
theorem dX5_listCandidates_110 : decode cX5_listCandidates 110 = .ok (.invokevirtual 229, 3) := by decide +kernel
theorem dX5_listCandidates_113 : decode cX5_listCandidates 113 = .ok (.iinc 3 1, 3) := by decide +kernel
theorem dX5_listCandidates_116 : decode cX5_listCandidates 116 = .ok (.goto (-39), 3) := by decide +kernel
theorem dX5_listCandidates_119 : decode cX5_listCandidates 119 = .ok (.return_, 1) := by decide +kernel
theorem dX5_addTargets_0 : decode cX5_addTargets 0 = .ok (.aload_n 0, 1) := by decide +kernel
theorem dX5_addTargets_1 : decode cX5_addTargets 1 = .ok (.aload_n 1, 1) := by decide +kernel
theorem dX5_addTargets_2 : decode cX5_addTargets 2 = .ok (.iload_n 2, 1) := by decide +kernel
theorem dX5_addTargets_3 : decode cX5_addTargets 3 = .ok (.invokevirtual 232, 3) := by decide +kernel
theorem dX5_addTargets_6 : decode cX5_addTargets 6 = .ok (.lstore 4, 2) := by decide +kernel
theorem dX5_addTargets_8 : decode cX5_addTargets 8 = .ok (.iconst 0, 1) := by decide +kernel
theorem dX5_addTargets_9 : decode cX5_addTargets 9 = .ok (.istore 6, 2) := by decide +kernel
theorem dX5_addTargets_11 : decode cX5_addTargets 11 = .ok (.iload 6, 2) := by decide +kernel
theorem dX5_addTargets_13 : decode cX5_addTargets 13 = .ok (.aload_n 1, 1) := by decide +kernel
theorem dX5_addTargets_14 : decode cX5_addTargets 14 = .ok (.invokevirtual 95, 3) := by decide +kernel
theorem dX5_addTargets_17 : decode cX5_addTargets 17 = .ok (.if_icmp .ge 30, 3) := by decide +kernel
theorem dX5_addTargets_20 : decode cX5_addTargets 20 = .ok (.lload 4, 2) := by decide +kernel
theorem dX5_addTargets_22 : decode cX5_addTargets 22 = .ok (.iload 6, 2) := by decide +kernel
theorem dX5_addTargets_24 : decode cX5_addTargets 24 = .ok (.invokestatic 99, 3) := by decide +kernel
theorem dX5_addTargets_27 : decode cX5_addTargets 27 = .ok (.ifCond .eq 14, 3) := by decide +kernel
theorem dX5_addTargets_30 : decode cX5_addTargets 30 = .ok (.aload_n 3, 1) := by decide +kernel
theorem dX5_addTargets_31 : decode cX5_addTargets 31 = .ok (.iconst 0, 1) := by decide +kernel
theorem dX5_addTargets_32 : decode cX5_addTargets 32 = .ok (.iload_n 2, 1) := by decide +kernel
theorem dX5_addTargets_33 : decode cX5_addTargets 33 = .ok (.iload 6, 2) := by decide +kernel
theorem dX5_addTargets_35 : decode cX5_addTargets 35 = .ok (.invokestatic 221, 3) := by decide +kernel
theorem dX5_addTargets_38 : decode cX5_addTargets 38 = .ok (.invokevirtual 225, 3) := by decide +kernel
theorem dX5_addTargets_41 : decode cX5_addTargets 41 = .ok (.iinc 6 1, 3) := by decide +kernel
theorem dX5_addTargets_44 : decode cX5_addTargets 44 = .ok (.goto (-33), 3) := by decide +kernel
theorem dX5_addTargets_47 : decode cX5_addTargets 47 = .ok (.return_, 1) := by decide +kernel
