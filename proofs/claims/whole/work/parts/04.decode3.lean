theorem dX11_in_13 : decode cX11_in 13 = .ok (.iconst 1, 1) := by decide +kernel
theorem dX11_in_14 : decode cX11_in 14 = .ok (.goto 4, 3) := by decide +kernel
theorem dX11_in_17 : decode cX11_in 17 = .ok (.iconst 0, 1) := by decide +kernel
theorem dX11_in_18 : decode cX11_in 18 = .ok (.ireturn, 1) := by decide +kernel
theorem dX11_found_0 : decode cX11_found 0 = .ok (.aload_n 0, 1) := by decide +kernel
theorem dX11_found_1 : decode cX11_found 1 = .ok (.iload_n 1, 1) := by decide +kernel
theorem dX11_found_2 : decode cX11_found 2 = .ok (.putfield 56, 3) := by decide +kernel
theorem dX11_found_5 : decode cX11_found 5 = .ok (.ldc 59, 2) := by decide +kernel
theorem dX11_found_7 : decode cX11_found 7 = .ok (.iload_n 1, 1) := by decide +kernel
theorem dX11_found_8 : decode cX11_found 8 = .ok (.isub, 1) := by decide +kernel
theorem dX11_found_9 : decode cX11_found 9 = .ok (.ireturn, 1) := by decide +kernel
theorem dX11_isSheet_0 : decode cX11_isSheet 0 = .ok (.iload_n 0, 1) := by decide +kernel
theorem dX11_isSheet_1 : decode cX11_isSheet 1 = .ok (.i2l, 1) := by decide +kernel
theorem dX11_isSheet_2 : decode cX11_isSheet 2 = .ok (.lconst 0, 1) := by decide +kernel
theorem dX11_isSheet_3 : decode cX11_isSheet 3 = .ok (.ldc2_w 60, 3) := by decide +kernel
theorem dX11_isSheet_6 : decode cX11_isSheet 6 = .ok (.invokestatic 62, 3) := by decide +kernel
theorem dX11_isSheet_9 : decode cX11_isSheet 9 = .ok (.ireturn, 1) := by decide +kernel
theorem dX11_sheet_0 : decode cX11_sheet 0 = .ok (.aload_n 0, 1) := by decide +kernel
theorem dX11_sheet_1 : decode cX11_sheet 1 = .ok (.iconst 0, 1) := by decide +kernel
theorem dX11_sheet_2 : decode cX11_sheet 2 = .ok (.putfield 52, 3) := by decide +kernel
theorem dX11_sheet_5 : decode cX11_sheet 5 = .ok (.iload_n 1, 1) := by decide +kernel
theorem dX11_sheet_6 : decode cX11_sheet 6 = .ok (.invokestatic 66, 3) := by decide +kernel
theorem dX11_sheet_9 : decode cX11_sheet 9 = .ok (.ifCond .eq 21, 3) := by decide +kernel
theorem dX11_sheet_12 : decode cX11_sheet 12 = .ok (.iload_n 2, 1) := by decide +kernel
theorem dX11_sheet_13 : decode cX11_sheet 13 = .ok (.i2l, 1) := by decide +kernel
theorem dX11_sheet_14 : decode cX11_sheet 14 = .ok (.lconst 0, 1) := by decide +kernel
theorem dX11_sheet_15 : decode cX11_sheet 15 = .ok (.ldc2_w 70, 3) := by decide +kernel
theorem dX11_sheet_18 : decode cX11_sheet 18 = .ok (.invokestatic 62, 3) := by decide +kernel
theorem dX11_sheet_21 : decode cX11_sheet 21 = .ok (.ifCond .eq 9, 3) := by decide +kernel
theorem dX11_sheet_24 : decode cX11_sheet 24 = .ok (.iload_n 3, 1) := by decide +kernel
theorem dX11_sheet_25 : decode cX11_sheet 25 = .ok (.bipush 60, 2) := by decide +kernel
theorem dX11_sheet_27 : decode cX11_sheet 27 = .ok (.if_icmp .le 6, 3) := by decide +kernel
theorem dX11_sheet_30 : decode cX11_sheet 30 = .ok (.ldc 72, 2) := by decide +kernel
theorem dX11_sheet_32 : decode cX11_sheet 32 = .ok (.ireturn, 1) := by decide +kernel
theorem dX11_sheet_33 : decode cX11_sheet 33 = .ok (.aload_n 0, 1) := by decide +kernel
theorem dX11_sheet_34 : decode cX11_sheet 34 = .ok (.iconst 0, 1) := by decide +kernel
theorem dX11_sheet_35 : decode cX11_sheet 35 = .ok (.putfield 56, 3) := by decide +kernel
theorem dX11_sheet_38 : decode cX11_sheet 38 = .ok (.iload_n 3, 1) := by decide +kernel
theorem dX11_sheet_39 : decode cX11_sheet 39 = .ok (.ifCond .ge 9, 3) := by decide +kernel
theorem dX11_sheet_42 : decode cX11_sheet 42 = .ok (.aload_n 0, 1) := by decide +kernel
theorem dX11_sheet_43 : decode cX11_sheet 43 = .ok (.iconst 4, 1) := by decide +kernel
theorem dX11_sheet_44 : decode cX11_sheet 44 = .ok (.invokevirtual 73, 3) := by decide +kernel
theorem dX11_sheet_47 : decode cX11_sheet 47 = .ok (.ireturn, 1) := by decide +kernel
theorem dX11_sheet_48 : decode cX11_sheet 48 = .ok (.aload_n 0, 1) := by decide +kernel
theorem dX11_sheet_49 : decode cX11_sheet 49 = .ok (.getfield 7, 3) := by decide +kernel
theorem dX11_sheet_52 : decode cX11_sheet 52 = .ok (.iload_n 1, 1) := by decide +kernel
theorem dX11_sheet_53 : decode cX11_sheet 53 = .ok (.iload_n 2, 1) := by decide +kernel
theorem dX11_sheet_54 : decode cX11_sheet 54 = .ok (.iastore, 1) := by decide +kernel
theorem dX11_sheet_55 : decode cX11_sheet 55 = .ok (.aload_n 0, 1) := by decide +kernel
theorem dX11_sheet_56 : decode cX11_sheet 56 = .ok (.getfield 13, 3) := by decide +kernel
theorem dX11_sheet_59 : decode cX11_sheet 59 = .ok (.iload_n 1, 1) := by decide +kernel
theorem dX11_sheet_60 : decode cX11_sheet 60 = .ok (.iload_n 3, 1) := by decide +kernel
theorem dX11_sheet_61 : decode cX11_sheet 61 = .ok (.iastore, 1) := by decide +kernel
theorem dX11_sheet_62 : decode cX11_sheet 62 = .ok (.iconst 0, 1) := by decide +kernel
theorem dX11_sheet_63 : decode cX11_sheet 63 = .ok (.istore 4, 2) := by decide +kernel
theorem dX11_sheet_65 : decode cX11_sheet 65 = .ok (.iload 4, 2) := by decide +kernel
theorem dX11_sheet_67 : decode cX11_sheet 67 = .ok (.bipush 60, 2) := by decide +kernel
theorem dX11_sheet_69 : decode cX11_sheet 69 = .ok (.if_icmp .ge 22, 3) := by decide +kernel
theorem dX11_sheet_72 : decode cX11_sheet 72 = .ok (.aload_n 0, 1) := by decide +kernel
theorem dX11_sheet_73 : decode cX11_sheet 73 = .ok (.getfield 16, 3) := by decide +kernel
theorem dX11_sheet_76 : decode cX11_sheet 76 = .ok (.bipush 60, 2) := by decide +kernel
theorem dX11_sheet_78 : decode cX11_sheet 78 = .ok (.iload_n 1, 1) := by decide +kernel
theorem dX11_sheet_79 : decode cX11_sheet 79 = .ok (.imul, 1) := by decide +kernel
theorem dX11_sheet_80 : decode cX11_sheet 80 = .ok (.iload 4, 2) := by decide +kernel
theorem dX11_sheet_82 : decode cX11_sheet 82 = .ok (.iadd, 1) := by decide +kernel
theorem dX11_sheet_83 : decode cX11_sheet 83 = .ok (.iconst 0, 1) := by decide +kernel
theorem dX11_sheet_84 : decode cX11_sheet 84 = .ok (.iastore, 1) := by decide +kernel
theorem dX11_sheet_85 : decode cX11_sheet 85 = .ok (.iinc 4 1, 3) := by decide +kernel
theorem dX11_sheet_88 : decode cX11_sheet 88 = .ok (.goto (-23), 3) := by decide +kernel
theorem dX11_sheet_91 : decode cX11_sheet 91 = .ok (.iload_n 3, 1) := by decide +kernel
theorem dX11_sheet_92 : decode cX11_sheet 92 = .ok (.ireturn, 1) := by decide +kernel
theorem dX11_set_0 : decode cX11_set 0 = .ok (.aload_n 0, 1) := by decide +kernel
theorem dX11_set_1 : decode cX11_set 1 = .ok (.iconst 0, 1) := by decide +kernel
theorem dX11_set_2 : decode cX11_set 2 = .ok (.putfield 52, 3) := by decide +kernel
theorem dX11_set_5 : decode cX11_set 5 = .ok (.iload_n 1, 1) := by decide +kernel
theorem dX11_set_6 : decode cX11_set 6 = .ok (.invokestatic 66, 3) := by decide +kernel
theorem dX11_set_9 : decode cX11_set 9 = .ok (.ifCond .ne 6, 3) := by decide +kernel
theorem dX11_set_12 : decode cX11_set 12 = .ok (.ldc 72, 2) := by decide +kernel
theorem dX11_set_14 : decode cX11_set 14 = .ok (.ireturn, 1) := by decide +kernel
theorem dX11_set_15 : decode cX11_set 15 = .ok (.aload_n 0, 1) := by decide +kernel
theorem dX11_set_16 : decode cX11_set 16 = .ok (.iconst 0, 1) := by decide +kernel
theorem dX11_set_17 : decode cX11_set 17 = .ok (.putfield 56, 3) := by decide +kernel
theorem dX11_set_20 : decode cX11_set 20 = .ok (.aload_n 0, 1) := by decide +kernel
theorem dX11_set_21 : decode cX11_set 21 = .ok (.getfield 7, 3) := by decide +kernel
theorem dX11_set_24 : decode cX11_set 24 = .ok (.iload_n 1, 1) := by decide +kernel
theorem dX11_set_25 : decode cX11_set 25 = .ok (.iaload, 1) := by decide +kernel
theorem dX11_set_26 : decode cX11_set 26 = .ok (.ifCond .ge 9, 3) := by decide +kernel
theorem dX11_set_29 : decode cX11_set 29 = .ok (.aload_n 0, 1) := by decide +kernel
theorem dX11_set_30 : decode cX11_set 30 = .ok (.iconst 1, 1) := by decide +kernel
theorem dX11_set_31 : decode cX11_set 31 = .ok (.invokevirtual 73, 3) := by decide +kernel
theorem dX11_set_34 : decode cX11_set 34 = .ok (.ireturn, 1) := by decide +kernel
theorem dX11_set_35 : decode cX11_set 35 = .ok (.iload_n 2, 1) := by decide +kernel
theorem dX11_set_36 : decode cX11_set 36 = .ok (.i2l, 1) := by decide +kernel
theorem dX11_set_37 : decode cX11_set 37 = .ok (.lconst 0, 1) := by decide +kernel
theorem dX11_set_38 : decode cX11_set 38 = .ok (.aload_n 0, 1) := by decide +kernel
theorem dX11_set_39 : decode cX11_set 39 = .ok (.getfield 13, 3) := by decide +kernel
theorem dX11_set_42 : decode cX11_set 42 = .ok (.iload_n 1, 1) := by decide +kernel
theorem dX11_set_43 : decode cX11_set 43 = .ok (.iaload, 1) := by decide +kernel
theorem dX11_set_44 : decode cX11_set 44 = .ok (.iconst 1, 1) := by decide +kernel
theorem dX11_set_45 : decode cX11_set 45 = .ok (.isub, 1) := by decide +kernel
theorem dX11_set_46 : decode cX11_set 46 = .ok (.i2l, 1) := by decide +kernel
theorem dX11_set_47 : decode cX11_set 47 = .ok (.invokestatic 62, 3) := by decide +kernel
theorem dX11_set_50 : decode cX11_set 50 = .ok (.ifCond .ne 9, 3) := by decide +kernel
theorem dX11_set_53 : decode cX11_set 53 = .ok (.aload_n 0, 1) := by decide +kernel
theorem dX11_set_54 : decode cX11_set 54 = .ok (.iconst 2, 1) := by decide +kernel
theorem dX11_set_55 : decode cX11_set 55 = .ok (.invokevirtual 73, 3) := by decide +kernel
theorem dX11_set_58 : decode cX11_set 58 = .ok (.ireturn, 1) := by decide +kernel
theorem dX11_set_59 : decode cX11_set 59 = .ok (.aload_n 0, 1) := by decide +kernel
theorem dX11_set_60 : decode cX11_set 60 = .ok (.getfield 16, 3) := by decide +kernel
theorem dX11_set_63 : decode cX11_set 63 = .ok (.bipush 60, 2) := by decide +kernel
theorem dX11_set_65 : decode cX11_set 65 = .ok (.iload_n 1, 1) := by decide +kernel
theorem dX11_set_66 : decode cX11_set 66 = .ok (.imul, 1) := by decide +kernel
theorem dX11_set_67 : decode cX11_set 67 = .ok (.iload_n 2, 1) := by decide +kernel
theorem dX11_set_68 : decode cX11_set 68 = .ok (.iadd, 1) := by decide +kernel
theorem dX11_set_69 : decode cX11_set 69 = .ok (.aload_n 0, 1) := by decide +kernel
theorem dX11_set_70 : decode cX11_set 70 = .ok (.getfield 7, 3) := by decide +kernel
theorem dX11_set_73 : decode cX11_set 73 = .ok (.iload_n 1, 1) := by decide +kernel
theorem dX11_set_74 : decode cX11_set 74 = .ok (.iaload, 1) := by decide +kernel
theorem dX11_set_75 : decode cX11_set 75 = .ok (.ifCond .ne 8, 3) := by decide +kernel
theorem dX11_set_78 : decode cX11_set 78 = .ok (.iload_n 3, 1) := by decide +kernel
theorem dX11_set_79 : decode cX11_set 79 = .ok (.i2b, 1) := by decide +kernel
theorem dX11_set_80 : decode cX11_set 80 = .ok (.goto 19, 3) := by decide +kernel
theorem dX11_set_83 : decode cX11_set 83 = .ok (.aload_n 0, 1) := by decide +kernel
theorem dX11_set_84 : decode cX11_set 84 = .ok (.getfield 7, 3) := by decide +kernel
theorem dX11_set_87 : decode cX11_set 87 = .ok (.iload_n 1, 1) := by decide +kernel
theorem dX11_set_88 : decode cX11_set 88 = .ok (.iaload, 1) := by decide +kernel
theorem dX11_set_89 : decode cX11_set 89 = .ok (.iconst 1, 1) := by decide +kernel
theorem dX11_set_90 : decode cX11_set 90 = .ok (.if_icmp .ne 8, 3) := by decide +kernel
theorem dX11_set_93 : decode cX11_set 93 = .ok (.iload_n 3, 1) := by decide +kernel
theorem dX11_set_94 : decode cX11_set 94 = .ok (.i2s, 1) := by decide +kernel
theorem dX11_set_95 : decode cX11_set 95 = .ok (.goto 4, 3) := by decide +kernel
theorem dX11_set_98 : decode cX11_set 98 = .ok (.iload_n 3, 1) := by decide +kernel
theorem dX11_set_99 : decode cX11_set 99 = .ok (.iastore, 1) := by decide +kernel
theorem dX11_set_100 : decode cX11_set 100 = .ok (.aload_n 0, 1) := by decide +kernel
theorem dX11_set_101 : decode cX11_set 101 = .ok (.getfield 16, 3) := by decide +kernel
theorem dX11_set_104 : decode cX11_set 104 = .ok (.bipush 60, 2) := by decide +kernel
theorem dX11_set_106 : decode cX11_set 106 = .ok (.iload_n 1, 1) := by decide +kernel
theorem dX11_set_107 : decode cX11_set 107 = .ok (.imul, 1) := by decide +kernel
theorem dX11_set_108 : decode cX11_set 108 = .ok (.iload_n 2, 1) := by decide +kernel
theorem dX11_set_109 : decode cX11_set 109 = .ok (.iadd, 1) := by decide +kernel
theorem dX11_set_110 : decode cX11_set 110 = .ok (.iaload, 1) := by decide +kernel
theorem dX11_set_111 : decode cX11_set 111 = .ok (.ireturn, 1) := by decide +kernel
theorem dX11_copy_0 : decode cX11_copy 0 = .ok (.aload_n 0, 1) := by decide +kernel
theorem dX11_copy_1 : decode cX11_copy 1 = .ok (.iconst 0, 1) := by decide +kernel
theorem dX11_copy_2 : decode cX11_copy 2 = .ok (.putfield 52, 3) := by decide +kernel
theorem dX11_copy_5 : decode cX11_copy 5 = .ok (.iload_n 1, 1) := by decide +kernel
theorem dX11_copy_6 : decode cX11_copy 6 = .ok (.invokestatic 66, 3) := by decide +kernel
theorem dX11_copy_9 : decode cX11_copy 9 = .ok (.ifCond .eq 10, 3) := by decide +kernel
theorem dX11_copy_12 : decode cX11_copy 12 = .ok (.iload_n 3, 1) := by decide +kernel
theorem dX11_copy_13 : decode cX11_copy 13 = .ok (.invokestatic 66, 3) := by decide +kernel
theorem dX11_copy_16 : decode cX11_copy 16 = .ok (.ifCond .ne 6, 3) := by decide +kernel
theorem dX11_copy_19 : decode cX11_copy 19 = .ok (.ldc 72, 2) := by decide +kernel
theorem dX11_copy_21 : decode cX11_copy 21 = .ok (.ireturn, 1) := by decide +kernel
theorem dX11_copy_22 : decode cX11_copy 22 = .ok (.aload_n 0, 1) := by decide +kernel
theorem dX11_copy_23 : decode cX11_copy 23 = .ok (.iconst 0, 1) := by decide +kernel
theorem dX11_copy_24 : decode cX11_copy 24 = .ok (.putfield 56, 3) := by decide +kernel
theorem dX11_copy_27 : decode cX11_copy 27 = .ok (.aload_n 0, 1) := by decide +kernel
theorem dX11_copy_28 : decode cX11_copy 28 = .ok (.getfield 7, 3) := by decide +kernel
theorem dX11_copy_31 : decode cX11_copy 31 = .ok (.iload_n 1, 1) := by decide +kernel
theorem dX11_copy_32 : decode cX11_copy 32 = .ok (.iaload, 1) := by decide +kernel
theorem dX11_copy_33 : decode cX11_copy 33 = .ok (.ifCond .lt 12, 3) := by decide +kernel
theorem dX11_copy_36 : decode cX11_copy 36 = .ok (.aload_n 0, 1) := by decide +kernel
theorem dX11_copy_37 : decode cX11_copy 37 = .ok (.getfield 7, 3) := by decide +kernel
theorem dX11_copy_40 : decode cX11_copy 40 = .ok (.iload_n 3, 1) := by decide +kernel
theorem dX11_copy_41 : decode cX11_copy 41 = .ok (.iaload, 1) := by decide +kernel
theorem dX11_copy_42 : decode cX11_copy 42 = .ok (.ifCond .ge 9, 3) := by decide +kernel
theorem dX11_copy_45 : decode cX11_copy 45 = .ok (.aload_n 0, 1) := by decide +kernel
theorem dX11_copy_46 : decode cX11_copy 46 = .ok (.iconst 1, 1) := by decide +kernel
theorem dX11_copy_47 : decode cX11_copy 47 = .ok (.invokevirtual 73, 3) := by decide +kernel
theorem dX11_copy_50 : decode cX11_copy 50 = .ok (.ireturn, 1) := by decide +kernel
theorem dX11_copy_51 : decode cX11_copy 51 = .ok (.aload_n 0, 1) := by decide +kernel
theorem dX11_copy_52 : decode cX11_copy 52 = .ok (.getfield 7, 3) := by decide +kernel
theorem dX11_copy_55 : decode cX11_copy 55 = .ok (.iload_n 1, 1) := by decide +kernel
theorem dX11_copy_56 : decode cX11_copy 56 = .ok (.iaload, 1) := by decide +kernel
theorem dX11_copy_57 : decode cX11_copy 57 = .ok (.aload_n 0, 1) := by decide +kernel
theorem dX11_copy_58 : decode cX11_copy 58 = .ok (.getfield 7, 3) := by decide +kernel
theorem dX11_copy_61 : decode cX11_copy 61 = .ok (.iload_n 3, 1) := by decide +kernel
theorem dX11_copy_62 : decode cX11_copy 62 = .ok (.iaload, 1) := by decide +kernel
theorem dX11_copy_63 : decode cX11_copy 63 = .ok (.if_icmp .eq 9, 3) := by decide +kernel
theorem dX11_copy_66 : decode cX11_copy 66 = .ok (.aload_n 0, 1) := by decide +kernel
theorem dX11_copy_67 : decode cX11_copy 67 = .ok (.iconst 5, 1) := by decide +kernel
theorem dX11_copy_68 : decode cX11_copy 68 = .ok (.invokevirtual 73, 3) := by decide +kernel
theorem dX11_copy_71 : decode cX11_copy 71 = .ok (.ireturn, 1) := by decide +kernel
theorem dX11_copy_72 : decode cX11_copy 72 = .ok (.iload_n 2, 1) := by decide +kernel
theorem dX11_copy_73 : decode cX11_copy 73 = .ok (.ifCond .lt 48, 3) := by decide +kernel
theorem dX11_copy_76 : decode cX11_copy 76 = .ok (.iload 4, 2) := by decide +kernel
theorem dX11_copy_78 : decode cX11_copy 78 = .ok (.ifCond .lt 43, 3) := by decide +kernel
theorem dX11_copy_81 : decode cX11_copy 81 = .ok (.iload 5, 2) := by decide +kernel
theorem dX11_copy_83 : decode cX11_copy 83 = .ok (.ifCond .lt 38, 3) := by decide +kernel
theorem dX11_copy_86 : decode cX11_copy 86 = .ok (.iload_n 2, 1) := by decide +kernel
theorem dX11_copy_87 : decode cX11_copy 87 = .ok (.i2l, 1) := by decide +kernel
theorem dX11_copy_88 : decode cX11_copy 88 = .ok (.iload 5, 2) := by decide +kernel
theorem dX11_copy_90 : decode cX11_copy 90 = .ok (.i2l, 1) := by decide +kernel
theorem dX11_copy_91 : decode cX11_copy 91 = .ok (.ladd, 1) := by decide +kernel
theorem dX11_copy_92 : decode cX11_copy 92 = .ok (.aload_n 0, 1) := by decide +kernel
theorem dX11_copy_93 : decode cX11_copy 93 = .ok (.getfield 13, 3) := by decide +kernel
theorem dX11_copy_96 : decode cX11_copy 96 = .ok (.iload_n 1, 1) := by decide +kernel
theorem dX11_copy_97 : decode cX11_copy 97 = .ok (.iaload, 1) := by decide +kernel
theorem dX11_copy_98 : decode cX11_copy 98 = .ok (.i2l, 1) := by decide +kernel
theorem dX11_copy_99 : decode cX11_copy 99 = .ok (.lcmp, 1) := by decide +kernel
theorem dX11_copy_100 : decode cX11_copy 100 = .ok (.ifCond .gt 21, 3) := by decide +kernel
theorem dX11_copy_103 : decode cX11_copy 103 = .ok (.iload 4, 2) := by decide +kernel
theorem dX11_copy_105 : decode cX11_copy 105 = .ok (.i2l, 1) := by decide +kernel
theorem dX11_copy_106 : decode cX11_copy 106 = .ok (.iload 5, 2) := by decide +kernel
theorem dX11_copy_108 : decode cX11_copy 108 = .ok (.i2l, 1) := by decide +kernel
theorem dX11_copy_109 : decode cX11_copy 109 = .ok (.ladd, 1) := by decide +kernel
theorem dX11_copy_110 : decode cX11_copy 110 = .ok (.aload_n 0, 1) := by decide +kernel
theorem dX11_copy_111 : decode cX11_copy 111 = .ok (.getfield 13, 3) := by decide +kernel
theorem dX11_copy_114 : decode cX11_copy 114 = .ok (.iload_n 3, 1) := by decide +kernel
theorem dX11_copy_115 : decode cX11_copy 115 = .ok (.iaload, 1) := by decide +kernel
theorem dX11_copy_116 : decode cX11_copy 116 = .ok (.i2l, 1) := by decide +kernel
theorem dX11_copy_117 : decode cX11_copy 117 = .ok (.lcmp, 1) := by decide +kernel
theorem dX11_copy_118 : decode cX11_copy 118 = .ok (.ifCond .le 9, 3) := by decide +kernel
theorem dX11_copy_121 : decode cX11_copy 121 = .ok (.aload_n 0, 1) := by decide +kernel
theorem dX11_copy_122 : decode cX11_copy 122 = .ok (.iconst 2, 1) := by decide +kernel
theorem dX11_copy_123 : decode cX11_copy 123 = .ok (.invokevirtual 73, 3) := by decide +kernel
theorem dX11_copy_126 : decode cX11_copy 126 = .ok (.ireturn, 1) := by decide +kernel
theorem dX11_copy_127 : decode cX11_copy 127 = .ok (.iload_n 2, 1) := by decide +kernel
theorem dX11_copy_128 : decode cX11_copy 128 = .ok (.iload 4, 2) := by decide +kernel
theorem dX11_copy_130 : decode cX11_copy 130 = .ok (.if_icmp .lt 7, 3) := by decide +kernel
theorem dX11_copy_133 : decode cX11_copy 133 = .ok (.iconst 1, 1) := by decide +kernel
theorem dX11_copy_134 : decode cX11_copy 134 = .ok (.goto 4, 3) := by decide +kernel
theorem dX11_copy_137 : decode cX11_copy 137 = .ok (.iconst 0, 1) := by decide +kernel
theorem dX11_copy_138 : decode cX11_copy 138 = .ok (.istore 6, 2) := by decide +kernel
theorem dX11_copy_140 : decode cX11_copy 140 = .ok (.iconst 0, 1) := by decide +kernel
theorem dX11_copy_141 : decode cX11_copy 141 = .ok (.istore 7, 2) := by decide +kernel
theorem dX11_copy_143 : decode cX11_copy 143 = .ok (.iload 7, 2) := by decide +kernel
theorem dX11_copy_145 : decode cX11_copy 145 = .ok (.iload 5, 2) := by decide +kernel
theorem dX11_copy_147 : decode cX11_copy 147 = .ok (.if_icmp .ge 57, 3) := by decide +kernel
theorem dX11_copy_150 : decode cX11_copy 150 = .ok (.iload 6, 2) := by decide +kernel
theorem dX11_copy_152 : decode cX11_copy 152 = .ok (.ifCond .eq 8, 3) := by decide +kernel
theorem dX11_copy_155 : decode cX11_copy 155 = .ok (.iload 7, 2) := by decide +kernel
theorem dX11_copy_157 : decode cX11_copy 157 = .ok (.goto 10, 3) := by decide +kernel
theorem dX11_copy_160 : decode cX11_copy 160 = .ok (.iload 5, 2) := by decide +kernel
theorem dX11_copy_162 : decode cX11_copy 162 = .ok (.iconst 1, 1) := by decide +kernel
theorem dX11_copy_163 : decode cX11_copy 163 = .ok (.isub, 1) := by decide +kernel
theorem dX11_copy_164 : decode cX11_copy 164 = .ok (.iload 7, 2) := by decide +kernel
theorem dX11_copy_166 : decode cX11_copy 166 = .ok (.isub, 1) := by decide +kernel
theorem dX11_copy_167 : decode cX11_copy 167 = .ok (.istore 8, 2) := by decide +kernel
theorem dX11_copy_169 : decode cX11_copy 169 = .ok (.aload_n 0, 1) := by decide +kernel
theorem dX11_copy_170 : decode cX11_copy 170 = .ok (.getfield 16, 3) := by decide +kernel
theorem dX11_copy_173 : decode cX11_copy 173 = .ok (.bipush 60, 2) := by decide +kernel
theorem dX11_copy_175 : decode cX11_copy 175 = .ok (.iload_n 3, 1) := by decide +kernel
theorem dX11_copy_176 : decode cX11_copy 176 = .ok (.imul, 1) := by decide +kernel
theorem dX11_copy_177 : decode cX11_copy 177 = .ok (.iload 4, 2) := by decide +kernel
theorem dX11_copy_179 : decode cX11_copy 179 = .ok (.iadd, 1) := by decide +kernel
theorem dX11_copy_180 : decode cX11_copy 180 = .ok (.iload 8, 2) := by decide +kernel
theorem dX11_copy_182 : decode cX11_copy 182 = .ok (.iadd, 1) := by decide +kernel
theorem dX11_copy_183 : decode cX11_copy 183 = .ok (.aload_n 0, 1) := by decide +kernel
theorem dX11_copy_184 : decode cX11_copy 184 = .ok (.getfield 16, 3) := by decide +kernel
theorem dX11_copy_187 : decode cX11_copy 187 = .ok (.bipush 60, 2) := by decide +kernel
theorem dX11_copy_189 : decode cX11_copy 189 = .ok (.iload_n 1, 1) := by decide +kernel
theorem dX11_copy_190 : decode cX11_copy 190 = .ok (.imul, 1) := by decide +kernel
theorem dX11_copy_191 : decode cX11_copy 191 = .ok (.iload_n 2, 1) := by decide +kernel
theorem dX11_copy_192 : decode cX11_copy 192 = .ok (.iadd, 1) := by decide +kernel
theorem dX11_copy_193 : decode cX11_copy 193 = .ok (.iload 8, 2) := by decide +kernel
theorem dX11_copy_195 : decode cX11_copy 195 = .ok (.iadd, 1) := by decide +kernel
theorem dX11_copy_196 : decode cX11_copy 196 = .ok (.iaload, 1) := by decide +kernel
theorem dX11_copy_197 : decode cX11_copy 197 = .ok (.iastore, 1) := by decide +kernel
theorem dX11_copy_198 : decode cX11_copy 198 = .ok (.iinc 7 1, 3) := by decide +kernel
theorem dX11_copy_201 : decode cX11_copy 201 = .ok (.goto (-58), 3) := by decide +kernel
theorem dX11_copy_204 : decode cX11_copy 204 = .ok (.iload 5, 2) := by decide +kernel
theorem dX11_copy_206 : decode cX11_copy 206 = .ok (.ireturn, 1) := by decide +kernel
theorem dX11_drop_0 : decode cX11_drop 0 = .ok (.aload_n 0, 1) := by decide +kernel
theorem dX11_drop_1 : decode cX11_drop 1 = .ok (.iconst 0, 1) := by decide +kernel
theorem dX11_drop_2 : decode cX11_drop 2 = .ok (.putfield 52, 3) := by decide +kernel
theorem dX11_drop_5 : decode cX11_drop 5 = .ok (.iload_n 1, 1) := by decide +kernel
theorem dX11_drop_6 : decode cX11_drop 6 = .ok (.invokestatic 66, 3) := by decide +kernel
theorem dX11_drop_9 : decode cX11_drop 9 = .ok (.ifCond .ne 6, 3) := by decide +kernel
theorem dX11_drop_12 : decode cX11_drop 12 = .ok (.ldc 72, 2) := by decide +kernel
theorem dX11_drop_14 : decode cX11_drop 14 = .ok (.ireturn, 1) := by decide +kernel
theorem dX11_drop_15 : decode cX11_drop 15 = .ok (.aload_n 0, 1) := by decide +kernel
theorem dX11_drop_16 : decode cX11_drop 16 = .ok (.iconst 0, 1) := by decide +kernel
theorem dX11_drop_17 : decode cX11_drop 17 = .ok (.putfield 56, 3) := by decide +kernel
theorem dX11_drop_20 : decode cX11_drop 20 = .ok (.aload_n 0, 1) := by decide +kernel
theorem dX11_drop_21 : decode cX11_drop 21 = .ok (.getfield 7, 3) := by decide +kernel
theorem dX11_drop_24 : decode cX11_drop 24 = .ok (.iload_n 1, 1) := by decide +kernel
theorem dX11_drop_25 : decode cX11_drop 25 = .ok (.iaload, 1) := by decide +kernel
theorem dX11_drop_26 : decode cX11_drop 26 = .ok (.ifCond .ge 9, 3) := by decide +kernel
theorem dX11_drop_29 : decode cX11_drop 29 = .ok (.aload_n 0, 1) := by decide +kernel
theorem dX11_drop_30 : decode cX11_drop 30 = .ok (.iconst 1, 1) := by decide +kernel
theorem dX11_drop_31 : decode cX11_drop 31 = .ok (.invokevirtual 73, 3) := by decide +kernel
theorem dX11_drop_34 : decode cX11_drop 34 = .ok (.ireturn, 1) := by decide +kernel
theorem dX11_drop_35 : decode cX11_drop 35 = .ok (.aload_n 0, 1) := by decide +kernel
theorem dX11_drop_36 : decode cX11_drop 36 = .ok (.getfield 7, 3) := by decide +kernel
theorem dX11_drop_39 : decode cX11_drop 39 = .ok (.iload_n 1, 1) := by decide +kernel
theorem dX11_drop_40 : decode cX11_drop 40 = .ok (.iconst (-1), 1) := by decide +kernel
theorem dX11_drop_41 : decode cX11_drop 41 = .ok (.iastore, 1) := by decide +kernel
theorem dX11_drop_42 : decode cX11_drop 42 = .ok (.aload_n 0, 1) := by decide +kernel
theorem dX11_drop_43 : decode cX11_drop 43 = .ok (.getfield 13, 3) := by decide +kernel
theorem dX11_drop_46 : decode cX11_drop 46 = .ok (.iload_n 1, 1) := by decide +kernel
theorem dX11_drop_47 : decode cX11_drop 47 = .ok (.iaload, 1) := by decide +kernel
theorem dX11_drop_48 : decode cX11_drop 48 = .ok (.ireturn, 1) := by decide +kernel
theorem dX11_lay_0 : decode cX11_lay 0 = .ok (.iconst 0, 1) := by decide +kernel
theorem dX11_lay_1 : decode cX11_lay 1 = .ok (.istore_n 2, 1) := by decide +kernel
theorem dX11_lay_2 : decode cX11_lay 2 = .ok (.iload_n 2, 1) := by decide +kernel
theorem dX11_lay_3 : decode cX11_lay 3 = .ok (.iconst 4, 1) := by decide +kernel
theorem dX11_lay_4 : decode cX11_lay 4 = .ok (.if_icmp .ge 32, 3) := by decide +kernel
theorem dX11_lay_7 : decode cX11_lay 7 = .ok (.aload_n 0, 1) := by decide +kernel
theorem dX11_lay_8 : decode cX11_lay 8 = .ok (.getfield 19, 3) := by decide +kernel
theorem dX11_lay_11 : decode cX11_lay 11 = .ok (.iload_n 2, 1) := by decide +kernel
theorem dX11_lay_12 : decode cX11_lay 12 = .ok (.iload_n 1, 1) := by decide +kernel
theorem dX11_lay_13 : decode cX11_lay 13 = .ok (.iconst 4, 1) := by decide +kernel
theorem dX11_lay_14 : decode cX11_lay 14 = .ok (.iload_n 2, 1) := by decide +kernel
theorem dX11_lay_15 : decode cX11_lay 15 = .ok (.imul, 1) := by decide +kernel
theorem dX11_lay_16 : decode cX11_lay 16 = .ok (.ishr, 1) := by decide +kernel
theorem dX11_lay_17 : decode cX11_lay 17 = .ok (.bipush 15, 2) := by decide +kernel
theorem dX11_lay_19 : decode cX11_lay 19 = .ok (.iand, 1) := by decide +kernel
theorem dX11_lay_20 : decode cX11_lay 20 = .ok (.iastore, 1) := by decide +kernel
theorem dX11_lay_21 : decode cX11_lay 21 = .ok (.aload_n 0, 1) := by decide +kernel
theorem dX11_lay_22 : decode cX11_lay 22 = .ok (.getfield 19, 3) := by decide +kernel
theorem dX11_lay_25 : decode cX11_lay 25 = .ok (.iconst 4, 1) := by decide +kernel
theorem dX11_lay_26 : decode cX11_lay 26 = .ok (.iload_n 2, 1) := by decide +kernel
theorem dX11_lay_27 : decode cX11_lay 27 = .ok (.iadd, 1) := by decide +kernel
theorem dX11_lay_28 : decode cX11_lay 28 = .ok (.iconst 0, 1) := by decide +kernel
theorem dX11_lay_29 : decode cX11_lay 29 = .ok (.iastore, 1) := by decide +kernel
theorem dX11_lay_30 : decode cX11_lay 30 = .ok (.iinc 2 1, 3) := by decide +kernel
theorem dX11_lay_33 : decode cX11_lay 33 = .ok (.goto (-31), 3) := by decide +kernel
theorem dX11_lay_36 : decode cX11_lay 36 = .ok (.iconst 0, 1) := by decide +kernel
theorem dX11_lay_37 : decode cX11_lay 37 = .ok (.istore_n 2, 1) := by decide +kernel
theorem dX11_lay_38 : decode cX11_lay 38 = .ok (.iload_n 2, 1) := by decide +kernel
theorem dX11_lay_39 : decode cX11_lay 39 = .ok (.iconst 4, 1) := by decide +kernel
theorem dX11_lay_40 : decode cX11_lay 40 = .ok (.if_icmp .ge 45, 3) := by decide +kernel
theorem dX11_lay_43 : decode cX11_lay 43 = .ok (.iconst 0, 1) := by decide +kernel
theorem dX11_lay_44 : decode cX11_lay 44 = .ok (.istore_n 3, 1) := by decide +kernel
theorem dX11_lay_45 : decode cX11_lay 45 = .ok (.iload_n 3, 1) := by decide +kernel
theorem dX11_lay_46 : decode cX11_lay 46 = .ok (.iconst 4, 1) := by decide +kernel
theorem dX11_lay_47 : decode cX11_lay 47 = .ok (.if_icmp .ge 32, 3) := by decide +kernel
theorem dX11_lay_50 : decode cX11_lay 50 = .ok (.aload_n 0, 1) := by decide +kernel
theorem dX11_lay_51 : decode cX11_lay 51 = .ok (.getfield 19, 3) := by decide +kernel
theorem dX11_lay_54 : decode cX11_lay 54 = .ok (.iconst 4, 1) := by decide +kernel
theorem dX11_lay_55 : decode cX11_lay 55 = .ok (.iload_n 3, 1) := by decide +kernel
theorem dX11_lay_56 : decode cX11_lay 56 = .ok (.iadd, 1) := by decide +kernel
theorem dX11_lay_57 : decode cX11_lay 57 = .ok (.dup2, 1) := by decide +kernel
theorem dX11_lay_58 : decode cX11_lay 58 = .ok (.iaload, 1) := by decide +kernel
theorem dX11_lay_59 : decode cX11_lay 59 = .ok (.aload_n 0, 1) := by decide +kernel
theorem dX11_lay_60 : decode cX11_lay 60 = .ok (.getfield 19, 3) := by decide +kernel
theorem dX11_lay_63 : decode cX11_lay 63 = .ok (.iload_n 2, 1) := by decide +kernel
theorem dX11_lay_64 : decode cX11_lay 64 = .ok (.iaload, 1) := by decide +kernel
theorem dX11_lay_65 : decode cX11_lay 65 = .ok (.iload_n 3, 1) := by decide +kernel
theorem dX11_lay_66 : decode cX11_lay 66 = .ok (.ishr, 1) := by decide +kernel
theorem dX11_lay_67 : decode cX11_lay 67 = .ok (.iconst 1, 1) := by decide +kernel
theorem dX11_lay_68 : decode cX11_lay 68 = .ok (.iand, 1) := by decide +kernel
theorem dX11_lay_69 : decode cX11_lay 69 = .ok (.iload_n 2, 1) := by decide +kernel
theorem dX11_lay_70 : decode cX11_lay 70 = .ok (.ishl, 1) := by decide +kernel
theorem dX11_lay_71 : decode cX11_lay 71 = .ok (.ior, 1) := by decide +kernel
theorem dX11_lay_72 : decode cX11_lay 72 = .ok (.iastore, 1) := by decide +kernel
theorem dX11_lay_73 : decode cX11_lay 73 = .ok (.iinc 3 1, 3) := by decide +kernel
theorem dX11_lay_76 : decode cX11_lay 76 = .ok (.goto (-31), 3) := by decide +kernel
theorem dX11_lay_79 : decode cX11_lay 79 = .ok (.iinc 2 1, 3) := by decide +kernel
theorem dX11_lay_82 : decode cX11_lay 82 = .ok (.goto (-44), 3) := by decide +kernel
theorem dX11_lay_85 : decode cX11_lay 85 = .ok (.iconst 0, 1) := by decide +kernel
theorem dX11_lay_86 : decode cX11_lay 86 = .ok (.istore_n 2, 1) := by decide +kernel
theorem dX11_lay_87 : decode cX11_lay 87 = .ok (.iload_n 2, 1) := by decide +kernel
theorem dX11_lay_88 : decode cX11_lay 88 = .ok (.iconst 4, 1) := by decide +kernel
theorem dX11_lay_89 : decode cX11_lay 89 = .ok (.if_icmp .ge 37, 3) := by decide +kernel
theorem dX11_lay_92 : decode cX11_lay 92 = .ok (.aload_n 0, 1) := by decide +kernel
theorem dX11_lay_93 : decode cX11_lay 93 = .ok (.getfield 19, 3) := by decide +kernel
theorem dX11_lay_96 : decode cX11_lay 96 = .ok (.bipush 8, 2) := by decide +kernel
theorem dX11_lay_98 : decode cX11_lay 98 = .ok (.iload_n 2, 1) := by decide +kernel
theorem dX11_lay_99 : decode cX11_lay 99 = .ok (.iadd, 1) := by decide +kernel
theorem dX11_lay_100 : decode cX11_lay 100 = .ok (.aload_n 0, 1) := by decide +kernel
theorem dX11_lay_101 : decode cX11_lay 101 = .ok (.getfield 19, 3) := by decide +kernel
theorem dX11_lay_104 : decode cX11_lay 104 = .ok (.iconst 2, 1) := by decide +kernel
theorem dX11_lay_105 : decode cX11_lay 105 = .ok (.iload_n 2, 1) := by decide +kernel
theorem dX11_lay_106 : decode cX11_lay 106 = .ok (.imul, 1) := by decide +kernel
theorem dX11_lay_107 : decode cX11_lay 107 = .ok (.iaload, 1) := by decide +kernel
theorem dX11_lay_108 : decode cX11_lay 108 = .ok (.aload_n 0, 1) := by decide +kernel
theorem dX11_lay_109 : decode cX11_lay 109 = .ok (.getfield 19, 3) := by decide +kernel
theorem dX11_lay_112 : decode cX11_lay 112 = .ok (.iconst 2, 1) := by decide +kernel
theorem dX11_lay_113 : decode cX11_lay 113 = .ok (.iload_n 2, 1) := by decide +kernel
theorem dX11_lay_114 : decode cX11_lay 114 = .ok (.imul, 1) := by decide +kernel
theorem dX11_lay_115 : decode cX11_lay 115 = .ok (.iconst 1, 1) := by decide +kernel
theorem dX11_lay_116 : decode cX11_lay 116 = .ok (.iadd, 1) := by decide +kernel
theorem dX11_lay_117 : decode cX11_lay 117 = .ok (.iaload, 1) := by decide +kernel
theorem dX11_lay_118 : decode cX11_lay 118 = .ok (.ixor, 1) := by decide +kernel
theorem dX11_lay_119 : decode cX11_lay 119 = .ok (.iastore, 1) := by decide +kernel
theorem dX11_lay_120 : decode cX11_lay 120 = .ok (.iinc 2 1, 3) := by decide +kernel
theorem dX11_lay_123 : decode cX11_lay 123 = .ok (.goto (-36), 3) := by decide +kernel
theorem dX11_lay_126 : decode cX11_lay 126 = .ok (.aload_n 0, 1) := by decide +kernel
theorem dX11_lay_127 : decode cX11_lay 127 = .ok (.getfield 19, 3) := by decide +kernel
theorem dX11_lay_130 : decode cX11_lay 130 = .ok (.bipush 12, 2) := by decide +kernel
theorem dX11_lay_132 : decode cX11_lay 132 = .ok (.aload_n 0, 1) := by decide +kernel
theorem dX11_lay_133 : decode cX11_lay 133 = .ok (.getfield 19, 3) := by decide +kernel
theorem dX11_lay_136 : decode cX11_lay 136 = .ok (.bipush 8, 2) := by decide +kernel
theorem dX11_lay_138 : decode cX11_lay 138 = .ok (.iaload, 1) := by decide +kernel
theorem dX11_lay_139 : decode cX11_lay 139 = .ok (.aload_n 0, 1) := by decide +kernel
theorem dX11_lay_140 : decode cX11_lay 140 = .ok (.getfield 19, 3) := by decide +kernel
theorem dX11_lay_143 : decode cX11_lay 143 = .ok (.bipush 9, 2) := by decide +kernel
theorem dX11_lay_145 : decode cX11_lay 145 = .ok (.iaload, 1) := by decide +kernel
theorem dX11_lay_146 : decode cX11_lay 146 = .ok (.ixor, 1) := by decide +kernel
theorem dX11_lay_147 : decode cX11_lay 147 = .ok (.iastore, 1) := by decide +kernel
theorem dX11_lay_148 : decode cX11_lay 148 = .ok (.aload_n 0, 1) := by decide +kernel
theorem dX11_lay_149 : decode cX11_lay 149 = .ok (.getfield 19, 3) := by decide +kernel
theorem dX11_lay_152 : decode cX11_lay 152 = .ok (.bipush 13, 2) := by decide +kernel
theorem dX11_lay_154 : decode cX11_lay 154 = .ok (.aload_n 0, 1) := by decide +kernel
theorem dX11_lay_155 : decode cX11_lay 155 = .ok (.getfield 19, 3) := by decide +kernel
theorem dX11_lay_158 : decode cX11_lay 158 = .ok (.bipush 10, 2) := by decide +kernel
theorem dX11_lay_160 : decode cX11_lay 160 = .ok (.iaload, 1) := by decide +kernel
theorem dX11_lay_161 : decode cX11_lay 161 = .ok (.aload_n 0, 1) := by decide +kernel
theorem dX11_lay_162 : decode cX11_lay 162 = .ok (.getfield 19, 3) := by decide +kernel
theorem dX11_lay_165 : decode cX11_lay 165 = .ok (.bipush 11, 2) := by decide +kernel
theorem dX11_lay_167 : decode cX11_lay 167 = .ok (.iaload, 1) := by decide +kernel
theorem dX11_lay_168 : decode cX11_lay 168 = .ok (.ixor, 1) := by decide +kernel
theorem dX11_lay_169 : decode cX11_lay 169 = .ok (.iastore, 1) := by decide +kernel
theorem dX11_lay_170 : decode cX11_lay 170 = .ok (.aload_n 0, 1) := by decide +kernel
theorem dX11_lay_171 : decode cX11_lay 171 = .ok (.getfield 19, 3) := by decide +kernel
theorem dX11_lay_174 : decode cX11_lay 174 = .ok (.bipush 14, 2) := by decide +kernel
theorem dX11_lay_176 : decode cX11_lay 176 = .ok (.aload_n 0, 1) := by decide +kernel
theorem dX11_lay_177 : decode cX11_lay 177 = .ok (.getfield 19, 3) := by decide +kernel
theorem dX11_lay_180 : decode cX11_lay 180 = .ok (.bipush 12, 2) := by decide +kernel
theorem dX11_lay_182 : decode cX11_lay 182 = .ok (.iaload, 1) := by decide +kernel
theorem dX11_lay_183 : decode cX11_lay 183 = .ok (.aload_n 0, 1) := by decide +kernel
theorem dX11_lay_184 : decode cX11_lay 184 = .ok (.getfield 19, 3) := by decide +kernel
theorem dX11_lay_187 : decode cX11_lay 187 = .ok (.bipush 13, 2) := by decide +kernel
theorem dX11_lay_189 : decode cX11_lay 189 = .ok (.iaload, 1) := by decide +kernel
theorem dX11_lay_190 : decode cX11_lay 190 = .ok (.ixor, 1) := by decide +kernel
theorem dX11_lay_191 : decode cX11_lay 191 = .ok (.iastore, 1) := by decide +kernel
theorem dX11_lay_192 : decode cX11_lay 192 = .ok (.aload_n 0, 1) := by decide +kernel
theorem dX11_lay_193 : decode cX11_lay 193 = .ok (.getfield 19, 3) := by decide +kernel
theorem dX11_lay_196 : decode cX11_lay 196 = .ok (.bipush 15, 2) := by decide +kernel
theorem dX11_lay_198 : decode cX11_lay 198 = .ok (.aload_n 0, 1) := by decide +kernel
theorem dX11_lay_199 : decode cX11_lay 199 = .ok (.getfield 19, 3) := by decide +kernel
theorem dX11_lay_202 : decode cX11_lay 202 = .ok (.bipush 14, 2) := by decide +kernel
theorem dX11_lay_204 : decode cX11_lay 204 = .ok (.iaload, 1) := by decide +kernel
theorem dX11_lay_205 : decode cX11_lay 205 = .ok (.aload_n 0, 1) := by decide +kernel
theorem dX11_lay_206 : decode cX11_lay 206 = .ok (.getfield 19, 3) := by decide +kernel
theorem dX11_lay_209 : decode cX11_lay 209 = .ok (.iconst 0, 1) := by decide +kernel
theorem dX11_lay_210 : decode cX11_lay 210 = .ok (.iaload, 1) := by decide +kernel
theorem dX11_lay_211 : decode cX11_lay 211 = .ok (.ixor, 1) := by decide +kernel
theorem dX11_lay_212 : decode cX11_lay 212 = .ok (.iastore, 1) := by decide +kernel
theorem dX11_lay_213 : decode cX11_lay 213 = .ok (.return_, 1) := by decide +kernel
theorem dX11_isFigure16_0 : decode cX11_isFigure16 0 = .ok (.iload_n 0, 1) := by decide +kernel
theorem dX11_isFigure16_1 : decode cX11_isFigure16 1 = .ok (.i2l, 1) := by decide +kernel
theorem dX11_isFigure16_2 : decode cX11_isFigure16 2 = .ok (.lconst 0, 1) := by decide +kernel
theorem dX11_isFigure16_3 : decode cX11_isFigure16 3 = .ok (.ldc2_w 77, 3) := by decide +kernel
theorem dX11_isFigure16_6 : decode cX11_isFigure16 6 = .ok (.invokestatic 62, 3) := by decide +kernel
theorem dX11_isFigure16_9 : decode cX11_isFigure16 9 = .ok (.ireturn, 1) := by decide +kernel
theorem dX11_singles_0 : decode cX11_singles 0 = .ok (.iload_n 0, 1) := by decide +kernel
theorem dX11_singles_1 : decode cX11_singles 1 = .ok (.iconst 1, 1) := by decide +kernel
theorem dX11_singles_2 : decode cX11_singles 2 = .ok (.iand, 1) := by decide +kernel
theorem dX11_singles_3 : decode cX11_singles 3 = .ok (.iload_n 0, 1) := by decide +kernel
theorem dX11_singles_4 : decode cX11_singles 4 = .ok (.iconst 1, 1) := by decide +kernel
theorem dX11_singles_5 : decode cX11_singles 5 = .ok (.ishr, 1) := by decide +kernel
theorem dX11_singles_6 : decode cX11_singles 6 = .ok (.iconst 1, 1) := by decide +kernel
theorem dX11_singles_7 : decode cX11_singles 7 = .ok (.iand, 1) := by decide +kernel
theorem dX11_singles_8 : decode cX11_singles 8 = .ok (.iadd, 1) := by decide +kernel
theorem dX11_singles_9 : decode cX11_singles 9 = .ok (.iload_n 0, 1) := by decide +kernel
theorem dX11_singles_10 : decode cX11_singles 10 = .ok (.iconst 2, 1) := by decide +kernel
theorem dX11_singles_11 : decode cX11_singles 11 = .ok (.ishr, 1) := by decide +kernel
theorem dX11_singles_12 : decode cX11_singles 12 = .ok (.iconst 1, 1) := by decide +kernel
theorem dX11_singles_13 : decode cX11_singles 13 = .ok (.iand, 1) := by decide +kernel
theorem dX11_singles_14 : decode cX11_singles 14 = .ok (.iadd, 1) := by decide +kernel
theorem dX11_singles_15 : decode cX11_singles 15 = .ok (.iload_n 0, 1) := by decide +kernel
theorem dX11_singles_16 : decode cX11_singles 16 = .ok (.iconst 3, 1) := by decide +kernel
theorem dX11_singles_17 : decode cX11_singles 17 = .ok (.ishr, 1) := by decide +kernel
theorem dX11_singles_18 : decode cX11_singles 18 = .ok (.iconst 1, 1) := by decide +kernel
theorem dX11_singles_19 : decode cX11_singles 19 = .ok (.iand, 1) := by decide +kernel
theorem dX11_singles_20 : decode cX11_singles 20 = .ok (.iadd, 1) := by decide +kernel
theorem dX11_singles_21 : decode cX11_singles 21 = .ok (.ireturn, 1) := by decide +kernel
theorem dX11_cast_0 : decode cX11_cast 0 = .ok (.aload_n 0, 1) := by decide +kernel
theorem dX11_cast_1 : decode cX11_cast 1 = .ok (.iconst 0, 1) := by decide +kernel
theorem dX11_cast_2 : decode cX11_cast 2 = .ok (.putfield 52, 3) := by decide +kernel
theorem dX11_cast_5 : decode cX11_cast 5 = .ok (.iload_n 1, 1) := by decide +kernel
theorem dX11_cast_6 : decode cX11_cast 6 = .ok (.invokestatic 66, 3) := by decide +kernel
theorem dX11_cast_9 : decode cX11_cast 9 = .ok (.ifCond .ne 6, 3) := by decide +kernel
theorem dX11_cast_12 : decode cX11_cast 12 = .ok (.ldc 72, 2) := by decide +kernel
theorem dX11_cast_14 : decode cX11_cast 14 = .ok (.ireturn, 1) := by decide +kernel
theorem dX11_cast_15 : decode cX11_cast 15 = .ok (.aload_n 0, 1) := by decide +kernel
theorem dX11_cast_16 : decode cX11_cast 16 = .ok (.getfield 7, 3) := by decide +kernel
theorem dX11_cast_19 : decode cX11_cast 19 = .ok (.iload_n 1, 1) := by decide +kernel
theorem dX11_cast_20 : decode cX11_cast 20 = .ok (.iaload, 1) := by decide +kernel
theorem dX11_cast_21 : decode cX11_cast 21 = .ok (.ifCond .ge 9, 3) := by decide +kernel
theorem dX11_cast_24 : decode cX11_cast 24 = .ok (.aload_n 0, 1) := by decide +kernel
theorem dX11_cast_25 : decode cX11_cast 25 = .ok (.iconst 1, 1) := by decide +kernel
theorem dX11_cast_26 : decode cX11_cast 26 = .ok (.invokevirtual 73, 3) := by decide +kernel
theorem dX11_cast_29 : decode cX11_cast 29 = .ok (.ireturn, 1) := by decide +kernel
theorem dX11_cast_30 : decode cX11_cast 30 = .ok (.iload_n 2, 1) := by decide +kernel
theorem dX11_cast_31 : decode cX11_cast 31 = .ok (.ifCond .lt 20, 3) := by decide +kernel
theorem dX11_cast_34 : decode cX11_cast 34 = .ok (.iload_n 2, 1) := by decide +kernel
theorem dX11_cast_35 : decode cX11_cast 35 = .ok (.i2l, 1) := by decide +kernel
theorem dX11_cast_36 : decode cX11_cast 36 = .ok (.ldc2_w 79, 3) := by decide +kernel
theorem dX11_cast_39 : decode cX11_cast 39 = .ok (.ladd, 1) := by decide +kernel
theorem dX11_cast_40 : decode cX11_cast 40 = .ok (.aload_n 0, 1) := by decide +kernel
theorem dX11_cast_41 : decode cX11_cast 41 = .ok (.getfield 13, 3) := by decide +kernel
theorem dX11_cast_44 : decode cX11_cast 44 = .ok (.iload_n 1, 1) := by decide +kernel
theorem dX11_cast_45 : decode cX11_cast 45 = .ok (.iaload, 1) := by decide +kernel
theorem dX11_cast_46 : decode cX11_cast 46 = .ok (.i2l, 1) := by decide +kernel
theorem dX11_cast_47 : decode cX11_cast 47 = .ok (.lcmp, 1) := by decide +kernel
theorem dX11_cast_48 : decode cX11_cast 48 = .ok (.ifCond .le 9, 3) := by decide +kernel
theorem dX11_cast_51 : decode cX11_cast 51 = .ok (.aload_n 0, 1) := by decide +kernel
theorem dX11_cast_52 : decode cX11_cast 52 = .ok (.iconst 2, 1) := by decide +kernel
theorem dX11_cast_53 : decode cX11_cast 53 = .ok (.invokevirtual 73, 3) := by decide +kernel
theorem dX11_cast_56 : decode cX11_cast 56 = .ok (.ireturn, 1) := by decide +kernel
theorem dX11_cast_57 : decode cX11_cast 57 = .ok (.iconst 0, 1) := by decide +kernel
theorem dX11_cast_58 : decode cX11_cast 58 = .ok (.istore_n 3, 1) := by decide +kernel
theorem dX11_cast_59 : decode cX11_cast 59 = .ok (.iconst 0, 1) := by decide +kernel
theorem dX11_cast_60 : decode cX11_cast 60 = .ok (.istore 4, 2) := by decide +kernel
theorem dX11_cast_62 : decode cX11_cast 62 = .ok (.iload 4, 2) := by decide +kernel
theorem dX11_cast_64 : decode cX11_cast 64 = .ok (.bipush 16, 2) := by decide +kernel
theorem dX11_cast_66 : decode cX11_cast 66 = .ok (.if_icmp .ge 43, 3) := by decide +kernel
theorem dX11_cast_69 : decode cX11_cast 69 = .ok (.aload_n 0, 1) := by decide +kernel
theorem dX11_cast_70 : decode cX11_cast 70 = .ok (.getfield 16, 3) := by decide +kernel
theorem dX11_cast_73 : decode cX11_cast 73 = .ok (.bipush 60, 2) := by decide +kernel
theorem dX11_cast_75 : decode cX11_cast 75 = .ok (.iload_n 1, 1) := by decide +kernel
theorem dX11_cast_76 : decode cX11_cast 76 = .ok (.imul, 1) := by decide +kernel
theorem dX11_cast_77 : decode cX11_cast 77 = .ok (.iload_n 2, 1) := by decide +kernel
theorem dX11_cast_78 : decode cX11_cast 78 = .ok (.iadd, 1) := by decide +kernel
theorem dX11_cast_79 : decode cX11_cast 79 = .ok (.iload 4, 2) := by decide +kernel
theorem dX11_cast_81 : decode cX11_cast 81 = .ok (.iadd, 1) := by decide +kernel
theorem dX11_cast_82 : decode cX11_cast 82 = .ok (.iaload, 1) := by decide +kernel
theorem dX11_cast_83 : decode cX11_cast 83 = .ok (.istore 5, 2) := by decide +kernel
theorem dX11_cast_85 : decode cX11_cast 85 = .ok (.iload 5, 2) := by decide +kernel
theorem dX11_cast_87 : decode cX11_cast 87 = .ok (.ifCond .ge 6, 3) := by decide +kernel
theorem dX11_cast_90 : decode cX11_cast 90 = .ok (.ldc 72, 2) := by decide +kernel
theorem dX11_cast_92 : decode cX11_cast 92 = .ok (.ireturn, 1) := by decide +kernel
theorem dX11_cast_93 : decode cX11_cast 93 = .ok (.iload_n 3, 1) := by decide +kernel
theorem dX11_cast_94 : decode cX11_cast 94 = .ok (.iload 5, 2) := by decide +kernel
theorem dX11_cast_96 : decode cX11_cast 96 = .ok (.iconst 1, 1) := by decide +kernel
theorem dX11_cast_97 : decode cX11_cast 97 = .ok (.iand, 1) := by decide +kernel
theorem dX11_cast_98 : decode cX11_cast 98 = .ok (.iload 4, 2) := by decide +kernel
theorem dX11_cast_100 : decode cX11_cast 100 = .ok (.ishl, 1) := by decide +kernel
theorem dX11_cast_101 : decode cX11_cast 101 = .ok (.ior, 1) := by decide +kernel
theorem dX11_cast_102 : decode cX11_cast 102 = .ok (.istore_n 3, 1) := by decide +kernel
theorem dX11_cast_103 : decode cX11_cast 103 = .ok (.iinc 4 1, 3) := by decide +kernel
theorem dX11_cast_106 : decode cX11_cast 106 = .ok (.goto (-44), 3) := by decide +kernel
theorem dX11_cast_109 : decode cX11_cast 109 = .ok (.aload_n 0, 1) := by decide +kernel
theorem dX11_cast_110 : decode cX11_cast 110 = .ok (.iconst 0, 1) := by decide +kernel
theorem dX11_cast_111 : decode cX11_cast 111 = .ok (.putfield 56, 3) := by decide +kernel
theorem dX11_cast_114 : decode cX11_cast 114 = .ok (.aload_n 0, 1) := by decide +kernel
theorem dX11_cast_115 : decode cX11_cast 115 = .ok (.iload_n 3, 1) := by decide +kernel
theorem dX11_cast_116 : decode cX11_cast 116 = .ok (.putfield 81, 3) := by decide +kernel
theorem dX11_cast_119 : decode cX11_cast 119 = .ok (.aload_n 0, 1) := by decide +kernel
theorem dX11_cast_120 : decode cX11_cast 120 = .ok (.getfield 81, 3) := by decide +kernel
theorem dX11_cast_123 : decode cX11_cast 123 = .ok (.ireturn, 1) := by decide +kernel
theorem dX11_chart_0 : decode cX11_chart 0 = .ok (.aload_n 0, 1) := by decide +kernel
theorem dX11_chart_1 : decode cX11_chart 1 = .ok (.iconst 0, 1) := by decide +kernel
theorem dX11_chart_2 : decode cX11_chart 2 = .ok (.putfield 52, 3) := by decide +kernel
theorem dX11_chart_5 : decode cX11_chart 5 = .ok (.iload_n 1, 1) := by decide +kernel
theorem dX11_chart_6 : decode cX11_chart 6 = .ok (.i2l, 1) := by decide +kernel
theorem dX11_chart_7 : decode cX11_chart 7 = .ok (.lconst 0, 1) := by decide +kernel
theorem dX11_chart_8 : decode cX11_chart 8 = .ok (.ldc2_w 84, 3) := by decide +kernel
theorem dX11_chart_11 : decode cX11_chart 11 = .ok (.invokestatic 62, 3) := by decide +kernel
theorem dX11_chart_14 : decode cX11_chart 14 = .ok (.ifCond .ne 6, 3) := by decide +kernel
theorem dX11_chart_17 : decode cX11_chart 17 = .ok (.ldc 72, 2) := by decide +kernel
theorem dX11_chart_19 : decode cX11_chart 19 = .ok (.ireturn, 1) := by decide +kernel
theorem dX11_chart_20 : decode cX11_chart 20 = .ok (.aload_n 0, 1) := by decide +kernel
theorem dX11_chart_21 : decode cX11_chart 21 = .ok (.getfield 81, 3) := by decide +kernel
theorem dX11_chart_24 : decode cX11_chart 24 = .ok (.istore_n 2, 1) := by decide +kernel
theorem dX11_chart_25 : decode cX11_chart 25 = .ok (.aload_n 0, 1) := by decide +kernel
theorem dX11_chart_26 : decode cX11_chart 26 = .ok (.iload_n 1, 1) := by decide +kernel
theorem dX11_chart_27 : decode cX11_chart 27 = .ok (.putfield 81, 3) := by decide +kernel
theorem dX11_chart_30 : decode cX11_chart 30 = .ok (.iload_n 2, 1) := by decide +kernel
theorem dX11_chart_31 : decode cX11_chart 31 = .ok (.ireturn, 1) := by decide +kernel
theorem dX11_at_0 : decode cX11_at 0 = .ok (.aload_n 0, 1) := by decide +kernel
theorem dX11_at_1 : decode cX11_at 1 = .ok (.iconst 0, 1) := by decide +kernel
theorem dX11_at_2 : decode cX11_at 2 = .ok (.putfield 52, 3) := by decide +kernel
theorem dX11_at_5 : decode cX11_at 5 = .ok (.aload_n 0, 1) := by decide +kernel
theorem dX11_at_6 : decode cX11_at 6 = .ok (.aload_n 0, 1) := by decide +kernel
theorem dX11_at_7 : decode cX11_at 7 = .ok (.getfield 81, 3) := by decide +kernel
theorem dX11_at_10 : decode cX11_at 10 = .ok (.invokevirtual 86, 3) := by decide +kernel
theorem dX11_at_13 : decode cX11_at 13 = .ok (.iload_n 1, 1) := by decide +kernel
theorem dX11_at_14 : decode cX11_at 14 = .ok (.invokestatic 90, 3) := by decide +kernel
theorem dX11_at_17 : decode cX11_at 17 = .ok (.ifCond .eq 12, 3) := by decide +kernel
theorem dX11_at_20 : decode cX11_at 20 = .ok (.aload_n 0, 1) := by decide +kernel
theorem dX11_at_21 : decode cX11_at 21 = .ok (.getfield 19, 3) := by decide +kernel
theorem dX11_at_24 : decode cX11_at 24 = .ok (.iload_n 1, 1) := by decide +kernel
theorem dX11_at_25 : decode cX11_at 25 = .ok (.iaload, 1) := by decide +kernel
theorem dX11_at_26 : decode cX11_at 26 = .ok (.goto 5, 3) := by decide +kernel
theorem dX11_at_29 : decode cX11_at 29 = .ok (.ldc 72, 2) := by decide +kernel
theorem dX11_at_31 : decode cX11_at 31 = .ok (.ireturn, 1) := by decide +kernel
theorem dX11_add_0 : decode cX11_add 0 = .ok (.aload_n 0, 1) := by decide +kernel
theorem dX11_add_1 : decode cX11_add 1 = .ok (.iconst 0, 1) := by decide +kernel
theorem dX11_add_2 : decode cX11_add 2 = .ok (.putfield 52, 3) := by decide +kernel
theorem dX11_add_5 : decode cX11_add 5 = .ok (.iload_n 1, 1) := by decide +kernel
theorem dX11_add_6 : decode cX11_add 6 = .ok (.invokestatic 90, 3) := by decide +kernel
theorem dX11_add_9 : decode cX11_add 9 = .ok (.ifCond .eq 10, 3) := by decide +kernel
theorem dX11_add_12 : decode cX11_add 12 = .ok (.iload_n 2, 1) := by decide +kernel
theorem dX11_add_13 : decode cX11_add 13 = .ok (.invokestatic 90, 3) := by decide +kernel
theorem dX11_add_16 : decode cX11_add 16 = .ok (.ifCond .ne 8, 3) := by decide +kernel
theorem dX11_add_19 : decode cX11_add 19 = .ok (.ldc 72, 2) := by decide +kernel
theorem dX11_add_21 : decode cX11_add 21 = .ok (.goto 6, 3) := by decide +kernel
theorem dX11_add_24 : decode cX11_add 24 = .ok (.iload_n 1, 1) := by decide +kernel
theorem dX11_add_25 : decode cX11_add 25 = .ok (.iload_n 2, 1) := by decide +kernel
theorem dX11_add_26 : decode cX11_add 26 = .ok (.ixor, 1) := by decide +kernel
theorem dX11_add_27 : decode cX11_add 27 = .ok (.ireturn, 1) := by decide +kernel
theorem dX11_seen_0 : decode cX11_seen 0 = .ok (.aload_n 0, 1) := by decide +kernel
theorem dX11_seen_1 : decode cX11_seen 1 = .ok (.iconst 0, 1) := by decide +kernel
theorem dX11_seen_2 : decode cX11_seen 2 = .ok (.putfield 52, 3) := by decide +kernel
theorem dX11_seen_5 : decode cX11_seen 5 = .ok (.iload_n 1, 1) := by decide +kernel
theorem dX11_seen_6 : decode cX11_seen 6 = .ok (.invokestatic 90, 3) := by decide +kernel
theorem dX11_seen_9 : decode cX11_seen 9 = .ok (.ifCond .ne 6, 3) := by decide +kernel
theorem dX11_seen_12 : decode cX11_seen 12 = .ok (.ldc 72, 2) := by decide +kernel
theorem dX11_seen_14 : decode cX11_seen 14 = .ok (.ireturn, 1) := by decide +kernel
theorem dX11_seen_15 : decode cX11_seen 15 = .ok (.aload_n 0, 1) := by decide +kernel
theorem dX11_seen_16 : decode cX11_seen 16 = .ok (.aload_n 0, 1) := by decide +kernel
theorem dX11_seen_17 : decode cX11_seen 17 = .ok (.getfield 81, 3) := by decide +kernel
theorem dX11_seen_20 : decode cX11_seen 20 = .ok (.invokevirtual 86, 3) := by decide +kernel
theorem dX11_seen_23 : decode cX11_seen 23 = .ok (.iconst 0, 1) := by decide +kernel
theorem dX11_seen_24 : decode cX11_seen 24 = .ok (.istore_n 2, 1) := by decide +kernel
theorem dX11_seen_25 : decode cX11_seen 25 = .ok (.iconst 0, 1) := by decide +kernel
theorem dX11_seen_26 : decode cX11_seen 26 = .ok (.istore_n 3, 1) := by decide +kernel
theorem dX11_seen_27 : decode cX11_seen 27 = .ok (.iload_n 3, 1) := by decide +kernel
theorem dX11_seen_28 : decode cX11_seen 28 = .ok (.bipush 16, 2) := by decide +kernel
theorem dX11_seen_30 : decode cX11_seen 30 = .ok (.if_icmp .ge 27, 3) := by decide +kernel
theorem dX11_seen_33 : decode cX11_seen 33 = .ok (.iload_n 2, 1) := by decide +kernel
theorem dX11_seen_34 : decode cX11_seen 34 = .ok (.aload_n 0, 1) := by decide +kernel
theorem dX11_seen_35 : decode cX11_seen 35 = .ok (.getfield 19, 3) := by decide +kernel
theorem dX11_seen_38 : decode cX11_seen 38 = .ok (.iload_n 3, 1) := by decide +kernel
theorem dX11_seen_39 : decode cX11_seen 39 = .ok (.iaload, 1) := by decide +kernel
theorem dX11_seen_40 : decode cX11_seen 40 = .ok (.iload_n 1, 1) := by decide +kernel
theorem dX11_seen_41 : decode cX11_seen 41 = .ok (.if_icmp .ne 7, 3) := by decide +kernel
theorem dX11_seen_44 : decode cX11_seen 44 = .ok (.iconst 1, 1) := by decide +kernel
theorem dX11_seen_45 : decode cX11_seen 45 = .ok (.goto 4, 3) := by decide +kernel
theorem dX11_seen_48 : decode cX11_seen 48 = .ok (.iconst 0, 1) := by decide +kernel
theorem dX11_seen_49 : decode cX11_seen 49 = .ok (.iadd, 1) := by decide +kernel
theorem dX11_seen_50 : decode cX11_seen 50 = .ok (.istore_n 2, 1) := by decide +kernel
theorem dX11_seen_51 : decode cX11_seen 51 = .ok (.iinc 3 1, 3) := by decide +kernel
theorem dX11_seen_54 : decode cX11_seen 54 = .ok (.goto (-27), 3) := by decide +kernel
theorem dX11_seen_57 : decode cX11_seen 57 = .ok (.iload_n 2, 1) := by decide +kernel
theorem dX11_seen_58 : decode cX11_seen 58 = .ok (.ireturn, 1) := by decide +kernel
theorem dX11_above_0 : decode cX11_above 0 = .ok (.iload_n 0, 1) := by decide +kernel
theorem dX11_above_1 : decode cX11_above 1 = .ok (.bipush 14, 2) := by decide +kernel
theorem dX11_above_3 : decode cX11_above 3 = .ok (.if_icmp .ne 8, 3) := by decide +kernel
theorem dX11_above_6 : decode cX11_above 6 = .ok (.bipush 12, 2) := by decide +kernel
theorem dX11_above_8 : decode cX11_above 8 = .ok (.goto 31, 3) := by decide +kernel
theorem dX11_above_11 : decode cX11_above 11 = .ok (.iload_n 0, 1) := by decide +kernel
theorem dX11_above_12 : decode cX11_above 12 = .ok (.bipush 12, 2) := by decide +kernel
theorem dX11_above_14 : decode cX11_above 14 = .ok (.if_icmp .ne 8, 3) := by decide +kernel
theorem dX11_above_17 : decode cX11_above 17 = .ok (.bipush 8, 2) := by decide +kernel
theorem dX11_above_19 : decode cX11_above 19 = .ok (.goto 20, 3) := by decide +kernel
theorem dX11_above_22 : decode cX11_above 22 = .ok (.iload_n 0, 1) := by decide +kernel
theorem dX11_above_23 : decode cX11_above 23 = .ok (.bipush 13, 2) := by decide +kernel
theorem dX11_above_25 : decode cX11_above 25 = .ok (.if_icmp .ne 8, 3) := by decide +kernel
theorem dX11_above_28 : decode cX11_above 28 = .ok (.bipush 10, 2) := by decide +kernel
theorem dX11_above_30 : decode cX11_above 30 = .ok (.goto 9, 3) := by decide +kernel
theorem dX11_above_33 : decode cX11_above 33 = .ok (.iconst 2, 1) := by decide +kernel
theorem dX11_above_34 : decode cX11_above 34 = .ok (.iload_n 0, 1) := by decide +kernel
theorem dX11_above_35 : decode cX11_above 35 = .ok (.bipush 8, 2) := by decide +kernel
theorem dX11_above_37 : decode cX11_above 37 = .ok (.isub, 1) := by decide +kernel
theorem dX11_above_38 : decode cX11_above 38 = .ok (.imul, 1) := by decide +kernel
theorem dX11_above_39 : decode cX11_above 39 = .ok (.ireturn, 1) := by decide +kernel
theorem dX11_point_0 : decode cX11_point 0 = .ok (.aload_n 0, 1) := by decide +kernel
theorem dX11_point_1 : decode cX11_point 1 = .ok (.iconst 0, 1) := by decide +kernel
theorem dX11_point_2 : decode cX11_point 2 = .ok (.putfield 52, 3) := by decide +kernel
theorem dX11_point_5 : decode cX11_point 5 = .ok (.aload_n 0, 1) := by decide +kernel
theorem dX11_point_6 : decode cX11_point 6 = .ok (.aload_n 0, 1) := by decide +kernel
theorem dX11_point_7 : decode cX11_point 7 = .ok (.getfield 81, 3) := by decide +kernel
theorem dX11_point_10 : decode cX11_point 10 = .ok (.invokevirtual 86, 3) := by decide +kernel
theorem dX11_point_13 : decode cX11_point 13 = .ok (.sipush 16384, 3) := by decide +kernel
theorem dX11_point_16 : decode cX11_point 16 = .ok (.istore_n 1, 1) := by decide +kernel
theorem dX11_point_17 : decode cX11_point 17 = .ok (.iconst 0, 1) := by decide +kernel
theorem dX11_point_18 : decode cX11_point 18 = .ok (.istore_n 2, 1) := by decide +kernel
theorem dX11_point_19 : decode cX11_point 19 = .ok (.bipush 14, 2) := by decide +kernel
theorem dX11_point_21 : decode cX11_point 21 = .ok (.istore_n 3, 1) := by decide +kernel
theorem dX11_point_22 : decode cX11_point 22 = .ok (.iload_n 3, 1) := by decide +kernel
theorem dX11_point_23 : decode cX11_point 23 = .ok (.ifCond .lt 96, 3) := by decide +kernel
theorem dX11_point_26 : decode cX11_point 26 = .ok (.iload_n 1, 1) := by decide +kernel
theorem dX11_point_27 : decode cX11_point 27 = .ok (.iload_n 3, 1) := by decide +kernel
theorem dX11_point_28 : decode cX11_point 28 = .ok (.ishr, 1) := by decide +kernel
theorem dX11_point_29 : decode cX11_point 29 = .ok (.iconst 1, 1) := by decide +kernel
theorem dX11_point_30 : decode cX11_point 30 = .ok (.iand, 1) := by decide +kernel
theorem dX11_point_31 : decode cX11_point 31 = .ok (.iconst 1, 1) := by decide +kernel
theorem dX11_point_32 : decode cX11_point 32 = .ok (.if_icmp .ne 81, 3) := by decide +kernel
theorem dX11_point_35 : decode cX11_point 35 = .ok (.iconst 0, 1) := by decide +kernel
theorem dX11_point_36 : decode cX11_point 36 = .ok (.istore 4, 2) := by decide +kernel
theorem dX11_point_38 : decode cX11_point 38 = .ok (.iconst 0, 1) := by decide +kernel
theorem dX11_point_39 : decode cX11_point 39 = .ok (.istore 5, 2) := by decide +kernel
theorem dX11_point_41 : decode cX11_point 41 = .ok (.iload 5, 2) := by decide +kernel
theorem dX11_point_43 : decode cX11_point 43 = .ok (.iconst 2, 1) := by decide +kernel
theorem dX11_point_44 : decode cX11_point 44 = .ok (.if_icmp .ge 54, 3) := by decide +kernel
theorem dX11_point_47 : decode cX11_point 47 = .ok (.iload_n 3, 1) := by decide +kernel
theorem dX11_point_48 : decode cX11_point 48 = .ok (.bipush 7, 2) := by decide +kernel
theorem dX11_point_50 : decode cX11_point 50 = .ok (.if_icmp .le 48, 3) := by decide +kernel
theorem dX11_point_53 : decode cX11_point 53 = .ok (.iload_n 3, 1) := by decide +kernel
theorem dX11_point_54 : decode cX11_point 54 = .ok (.invokestatic 93, 3) := by decide +kernel
theorem dX11_point_57 : decode cX11_point 57 = .ok (.iload 5, 2) := by decide +kernel
theorem dX11_point_59 : decode cX11_point 59 = .ok (.iadd, 1) := by decide +kernel
theorem dX11_point_60 : decode cX11_point 60 = .ok (.istore 6, 2) := by decide +kernel
theorem dX11_point_62 : decode cX11_point 62 = .ok (.aload_n 0, 1) := by decide +kernel
theorem dX11_point_63 : decode cX11_point 63 = .ok (.getfield 19, 3) := by decide +kernel
theorem dX11_point_66 : decode cX11_point 66 = .ok (.iload 6, 2) := by decide +kernel
theorem dX11_point_68 : decode cX11_point 68 = .ok (.iaload, 1) := by decide +kernel
theorem dX11_point_69 : decode cX11_point 69 = .ok (.iconst 1, 1) := by decide +kernel
theorem dX11_point_70 : decode cX11_point 70 = .ok (.iand, 1) := by decide +kernel
theorem dX11_point_71 : decode cX11_point 71 = .ok (.aload_n 0, 1) := by decide +kernel
theorem dX11_point_72 : decode cX11_point 72 = .ok (.getfield 19, 3) := by decide +kernel
theorem dX11_point_75 : decode cX11_point 75 = .ok (.iload_n 3, 1) := by decide +kernel
theorem dX11_point_76 : decode cX11_point 76 = .ok (.iaload, 1) := by decide +kernel
theorem dX11_point_77 : decode cX11_point 77 = .ok (.iconst 1, 1) := by decide +kernel
theorem dX11_point_78 : decode cX11_point 78 = .ok (.iand, 1) := by decide +kernel
theorem dX11_point_79 : decode cX11_point 79 = .ok (.if_icmp .ne 13, 3) := by decide +kernel
theorem dX11_point_82 : decode cX11_point 82 = .ok (.iload_n 1, 1) := by decide +kernel
theorem dX11_point_83 : decode cX11_point 83 = .ok (.iconst 1, 1) := by decide +kernel
theorem dX11_point_84 : decode cX11_point 84 = .ok (.iload 6, 2) := by decide +kernel
theorem dX11_point_86 : decode cX11_point 86 = .ok (.ishl, 1) := by decide +kernel
theorem dX11_point_87 : decode cX11_point 87 = .ok (.ior, 1) := by decide +kernel
theorem dX11_point_88 : decode cX11_point 88 = .ok (.istore_n 1, 1) := by decide +kernel
theorem dX11_point_89 : decode cX11_point 89 = .ok (.iconst 1, 1) := by decide +kernel
theorem dX11_point_90 : decode cX11_point 90 = .ok (.istore 4, 2) := by decide +kernel
theorem dX11_point_92 : decode cX11_point 92 = .ok (.iinc 5 1, 3) := by decide +kernel
theorem dX11_point_95 : decode cX11_point 95 = .ok (.goto (-54), 3) := by decide +kernel
theorem dX11_point_98 : decode cX11_point 98 = .ok (.iload_n 2, 1) := by decide +kernel
theorem dX11_point_99 : decode cX11_point 99 = .ok (.iload 4, 2) := by decide +kernel
theorem dX11_point_101 : decode cX11_point 101 = .ok (.ifCond .eq 7, 3) := by decide +kernel
theorem dX11_point_104 : decode cX11_point 104 = .ok (.iconst 0, 1) := by decide +kernel
theorem dX11_point_105 : decode cX11_point 105 = .ok (.goto 6, 3) := by decide +kernel
theorem dX11_point_108 : decode cX11_point 108 = .ok (.iconst 1, 1) := by decide +kernel
theorem dX11_point_109 : decode cX11_point 109 = .ok (.iload_n 3, 1) := by decide +kernel
theorem dX11_point_110 : decode cX11_point 110 = .ok (.ishl, 1) := by decide +kernel
theorem dX11_point_111 : decode cX11_point 111 = .ok (.ior, 1) := by decide +kernel
theorem dX11_point_112 : decode cX11_point 112 = .ok (.istore_n 2, 1) := by decide +kernel
theorem dX11_point_113 : decode cX11_point 113 = .ok (.iinc 3 (-1), 3) := by decide +kernel
theorem dX11_point_116 : decode cX11_point 116 = .ok (.goto (-94), 3) := by decide +kernel
theorem dX11_point_119 : decode cX11_point 119 = .ok (.iload_n 2, 1) := by decide +kernel
theorem dX11_point_120 : decode cX11_point 120 = .ok (.ireturn, 1) := by decide +kernel
theorem dX11_drawing_0 : decode cX11_drawing 0 = .ok (.aload_n 0, 1) := by decide +kernel
theorem dX11_drawing_1 : decode cX11_drawing 1 = .ok (.iconst 0, 1) := by decide +kernel
theorem dX11_drawing_2 : decode cX11_drawing 2 = .ok (.putfield 52, 3) := by decide +kernel
theorem dX11_drawing_5 : decode cX11_drawing 5 = .ok (.iload_n 1, 1) := by decide +kernel
theorem dX11_drawing_6 : decode cX11_drawing 6 = .ok (.invokestatic 66, 3) := by decide +kernel
theorem dX11_drawing_9 : decode cX11_drawing 9 = .ok (.ifCond .eq 15, 3) := by decide +kernel
theorem dX11_drawing_12 : decode cX11_drawing 12 = .ok (.iload_n 3, 1) := by decide +kernel
theorem dX11_drawing_13 : decode cX11_drawing 13 = .ok (.i2l, 1) := by decide +kernel
theorem dX11_drawing_14 : decode cX11_drawing 14 = .ok (.lconst 0, 1) := by decide +kernel
theorem dX11_drawing_15 : decode cX11_drawing 15 = .ok (.ldc2_w 96, 3) := by decide +kernel
theorem dX11_drawing_18 : decode cX11_drawing 18 = .ok (.invokestatic 62, 3) := by decide +kernel
theorem dX11_drawing_21 : decode cX11_drawing 21 = .ok (.ifCond .ne 6, 3) := by decide +kernel
theorem dX11_drawing_24 : decode cX11_drawing 24 = .ok (.ldc 72, 2) := by decide +kernel
theorem dX11_drawing_26 : decode cX11_drawing 26 = .ok (.ireturn, 1) := by decide +kernel
theorem dX11_drawing_27 : decode cX11_drawing 27 = .ok (.aload_n 0, 1) := by decide +kernel
theorem dX11_drawing_28 : decode cX11_drawing 28 = .ok (.getfield 7, 3) := by decide +kernel
theorem dX11_drawing_31 : decode cX11_drawing 31 = .ok (.iload_n 1, 1) := by decide +kernel
theorem dX11_drawing_32 : decode cX11_drawing 32 = .ok (.iaload, 1) := by decide +kernel
theorem dX11_drawing_33 : decode cX11_drawing 33 = .ok (.ifCond .ge 9, 3) := by decide +kernel
theorem dX11_drawing_36 : decode cX11_drawing 36 = .ok (.aload_n 0, 1) := by decide +kernel
theorem dX11_drawing_37 : decode cX11_drawing 37 = .ok (.iconst 1, 1) := by decide +kernel
theorem dX11_drawing_38 : decode cX11_drawing 38 = .ok (.invokevirtual 73, 3) := by decide +kernel
theorem dX11_drawing_41 : decode cX11_drawing 41 = .ok (.ireturn, 1) := by decide +kernel
theorem dX11_drawing_42 : decode cX11_drawing 42 = .ok (.iload_n 2, 1) := by decide +kernel
theorem dX11_drawing_43 : decode cX11_drawing 43 = .ok (.ifCond .lt 20, 3) := by decide +kernel
theorem dX11_drawing_46 : decode cX11_drawing 46 = .ok (.iload_n 2, 1) := by decide +kernel
theorem dX11_drawing_47 : decode cX11_drawing 47 = .ok (.i2l, 1) := by decide +kernel
theorem dX11_drawing_48 : decode cX11_drawing 48 = .ok (.ldc2_w 79, 3) := by decide +kernel
theorem dX11_drawing_51 : decode cX11_drawing 51 = .ok (.ladd, 1) := by decide +kernel
theorem dX11_drawing_52 : decode cX11_drawing 52 = .ok (.aload_n 0, 1) := by decide +kernel
theorem dX11_drawing_53 : decode cX11_drawing 53 = .ok (.getfield 13, 3) := by decide +kernel
theorem dX11_drawing_56 : decode cX11_drawing 56 = .ok (.iload_n 1, 1) := by decide +kernel
theorem dX11_drawing_57 : decode cX11_drawing 57 = .ok (.iaload, 1) := by decide +kernel
theorem dX11_drawing_58 : decode cX11_drawing 58 = .ok (.i2l, 1) := by decide +kernel
theorem dX11_drawing_59 : decode cX11_drawing 59 = .ok (.lcmp, 1) := by decide +kernel
theorem dX11_drawing_60 : decode cX11_drawing 60 = .ok (.ifCond .le 9, 3) := by decide +kernel
theorem dX11_drawing_63 : decode cX11_drawing 63 = .ok (.aload_n 0, 1) := by decide +kernel
theorem dX11_drawing_64 : decode cX11_drawing 64 = .ok (.iconst 2, 1) := by decide +kernel
theorem dX11_drawing_65 : decode cX11_drawing 65 = .ok (.invokevirtual 73, 3) := by decide +kernel
theorem dX11_drawing_68 : decode cX11_drawing 68 = .ok (.ireturn, 1) := by decide +kernel
theorem dX11_drawing_69 : decode cX11_drawing 69 = .ok (.iconst 0, 1) := by decide +kernel
theorem dX11_drawing_70 : decode cX11_drawing 70 = .ok (.istore 4, 2) := by decide +kernel
theorem dX11_drawing_72 : decode cX11_drawing 72 = .ok (.iload 4, 2) := by decide +kernel
theorem dX11_drawing_74 : decode cX11_drawing 74 = .ok (.bipush 16, 2) := by decide +kernel
theorem dX11_drawing_76 : decode cX11_drawing 76 = .ok (.if_icmp .ge 39, 3) := by decide +kernel
theorem dX11_drawing_79 : decode cX11_drawing 79 = .ok (.aload_n 0, 1) := by decide +kernel
theorem dX11_drawing_80 : decode cX11_drawing 80 = .ok (.getfield 16, 3) := by decide +kernel
theorem dX11_drawing_83 : decode cX11_drawing 83 = .ok (.bipush 60, 2) := by decide +kernel
theorem dX11_drawing_85 : decode cX11_drawing 85 = .ok (.iload_n 1, 1) := by decide +kernel
theorem dX11_drawing_86 : decode cX11_drawing 86 = .ok (.imul, 1) := by decide +kernel
theorem dX11_drawing_87 : decode cX11_drawing 87 = .ok (.iload_n 2, 1) := by decide +kernel
theorem dX11_drawing_88 : decode cX11_drawing 88 = .ok (.iadd, 1) := by decide +kernel
theorem dX11_drawing_89 : decode cX11_drawing 89 = .ok (.iload 4, 2) := by decide +kernel
theorem dX11_drawing_91 : decode cX11_drawing 91 = .ok (.iadd, 1) := by decide +kernel
theorem dX11_drawing_92 : decode cX11_drawing 92 = .ok (.iaload, 1) := by decide +kernel
theorem dX11_drawing_93 : decode cX11_drawing 93 = .ok (.i2l, 1) := by decide +kernel
theorem dX11_drawing_94 : decode cX11_drawing 94 = .ok (.ldc2_w 98, 3) := by decide +kernel
theorem dX11_drawing_97 : decode cX11_drawing 97 = .ok (.ldc2_w 77, 3) := by decide +kernel
theorem dX11_drawing_100 : decode cX11_drawing 100 = .ok (.invokestatic 62, 3) := by decide +kernel
theorem dX11_drawing_103 : decode cX11_drawing 103 = .ok (.ifCond .ne 6, 3) := by decide +kernel
theorem dX11_drawing_106 : decode cX11_drawing 106 = .ok (.ldc 72, 2) := by decide +kernel
theorem dX11_drawing_108 : decode cX11_drawing 108 = .ok (.ireturn, 1) := by decide +kernel
theorem dX11_drawing_109 : decode cX11_drawing 109 = .ok (.iinc 4 1, 3) := by decide +kernel
theorem dX11_drawing_112 : decode cX11_drawing 112 = .ok (.goto (-40), 3) := by decide +kernel
theorem dX11_drawing_115 : decode cX11_drawing 115 = .ok (.aload_n 0, 1) := by decide +kernel
theorem dX11_drawing_116 : decode cX11_drawing 116 = .ok (.iconst 0, 1) := by decide +kernel
theorem dX11_drawing_117 : decode cX11_drawing 117 = .ok (.putfield 56, 3) := by decide +kernel
theorem dX11_drawing_120 : decode cX11_drawing 120 = .ok (.iconst 0, 1) := by decide +kernel
theorem dX11_drawing_121 : decode cX11_drawing 121 = .ok (.istore 4, 2) := by decide +kernel
theorem dX11_drawing_123 : decode cX11_drawing 123 = .ok (.ldc 100, 2) := by decide +kernel
theorem dX11_drawing_125 : decode cX11_drawing 125 = .ok (.istore 5, 2) := by decide +kernel
theorem dX11_drawing_127 : decode cX11_drawing 127 = .ok (.bipush 100, 2) := by decide +kernel
theorem dX11_drawing_129 : decode cX11_drawing 129 = .ok (.istore 6, 2) := by decide +kernel
theorem dX11_drawing_131 : decode cX11_drawing 131 = .ok (.ldc 100, 2) := by decide +kernel
theorem dX11_drawing_133 : decode cX11_drawing 133 = .ok (.istore 7, 2) := by decide +kernel
theorem dX11_drawing_135 : decode cX11_drawing 135 = .ok (.iconst (-1), 1) := by decide +kernel
theorem dX11_drawing_136 : decode cX11_drawing 136 = .ok (.istore 8, 2) := by decide +kernel
theorem dX11_drawing_138 : decode cX11_drawing 138 = .ok (.iconst 0, 1) := by decide +kernel
theorem dX11_drawing_139 : decode cX11_drawing 139 = .ok (.istore 9, 2) := by decide +kernel
theorem dX11_drawing_141 : decode cX11_drawing 141 = .ok (.iload 9, 2) := by decide +kernel
theorem dX11_drawing_143 : decode cX11_drawing 143 = .ok (.ldc 101, 2) := by decide +kernel
theorem dX11_drawing_145 : decode cX11_drawing 145 = .ok (.if_icmp .ge 176, 3) := by decide +kernel
theorem dX11_drawing_148 : decode cX11_drawing 148 = .ok (.aload_n 0, 1) := by decide +kernel
theorem dX11_drawing_149 : decode cX11_drawing 149 = .ok (.iload 9, 2) := by decide +kernel
theorem dX11_drawing_151 : decode cX11_drawing 151 = .ok (.invokevirtual 86, 3) := by decide +kernel
theorem dX11_drawing_154 : decode cX11_drawing 154 = .ok (.iconst 0, 1) := by decide +kernel
theorem dX11_drawing_155 : decode cX11_drawing 155 = .ok (.istore 10, 2) := by decide +kernel
theorem dX11_drawing_157 : decode cX11_drawing 157 = .ok (.bipush 16, 2) := by decide +kernel
theorem dX11_drawing_159 : decode cX11_drawing 159 = .ok (.istore 11, 2) := by decide +kernel
theorem dX11_drawing_161 : decode cX11_drawing 161 = .ok (.bipush 15, 2) := by decide +kernel
theorem dX11_drawing_163 : decode cX11_drawing 163 = .ok (.istore 12, 2) := by decide +kernel
theorem dX11_drawing_165 : decode cX11_drawing 165 = .ok (.iload 12, 2) := by decide +kernel
theorem dX11_drawing_167 : decode cX11_drawing 167 = .ok (.ifCond .lt 64, 3) := by decide +kernel
theorem dX11_drawing_170 : decode cX11_drawing 170 = .ok (.aload_n 0, 1) := by decide +kernel
theorem dX11_drawing_171 : decode cX11_drawing 171 = .ok (.getfield 16, 3) := by decide +kernel
theorem dX11_drawing_174 : decode cX11_drawing 174 = .ok (.bipush 60, 2) := by decide +kernel
theorem dX11_drawing_176 : decode cX11_drawing 176 = .ok (.iload_n 1, 1) := by decide +kernel
theorem dX11_drawing_177 : decode cX11_drawing 177 = .ok (.imul, 1) := by decide +kernel
theorem dX11_drawing_178 : decode cX11_drawing 178 = .ok (.iload_n 2, 1) := by decide +kernel
theorem dX11_drawing_179 : decode cX11_drawing 179 = .ok (.iadd, 1) := by decide +kernel
theorem dX11_drawing_180 : decode cX11_drawing 180 = .ok (.iload 12, 2) := by decide +kernel
theorem dX11_drawing_182 : decode cX11_drawing 182 = .ok (.iadd, 1) := by decide +kernel
theorem dX11_drawing_183 : decode cX11_drawing 183 = .ok (.iaload, 1) := by decide +kernel
theorem dX11_drawing_184 : decode cX11_drawing 184 = .ok (.istore 13, 2) := by decide +kernel
theorem dX11_drawing_186 : decode cX11_drawing 186 = .ok (.iload 13, 2) := by decide +kernel
theorem dX11_drawing_188 : decode cX11_drawing 188 = .ok (.ifCond .lt 37, 3) := by decide +kernel
theorem dX11_drawing_191 : decode cX11_drawing 191 = .ok (.iload 13, 2) := by decide +kernel
theorem dX11_drawing_193 : decode cX11_drawing 193 = .ok (.aload_n 0, 1) := by decide +kernel
theorem dX11_drawing_194 : decode cX11_drawing 194 = .ok (.getfield 19, 3) := by decide +kernel
theorem dX11_drawing_197 : decode cX11_drawing 197 = .ok (.iload 12, 2) := by decide +kernel
theorem dX11_drawing_199 : decode cX11_drawing 199 = .ok (.iaload, 1) := by decide +kernel
theorem dX11_drawing_200 : decode cX11_drawing 200 = .ok (.if_icmp .eq 25, 3) := by decide +kernel
theorem dX11_drawing_203 : decode cX11_drawing 203 = .ok (.iload 10, 2) := by decide +kernel
theorem dX11_drawing_205 : decode cX11_drawing 205 = .ok (.iload 13, 2) := by decide +kernel
theorem dX11_drawing_207 : decode cX11_drawing 207 = .ok (.aload_n 0, 1) := by decide +kernel
theorem dX11_drawing_208 : decode cX11_drawing 208 = .ok (.getfield 19, 3) := by decide +kernel
theorem dX11_drawing_211 : decode cX11_drawing 211 = .ok (.iload 12, 2) := by decide +kernel
theorem dX11_drawing_213 : decode cX11_drawing 213 = .ok (.iaload, 1) := by decide +kernel
theorem dX11_drawing_214 : decode cX11_drawing 214 = .ok (.ixor, 1) := by decide +kernel
theorem dX11_drawing_215 : decode cX11_drawing 215 = .ok (.invokestatic 102, 3) := by decide +kernel
theorem dX11_drawing_218 : decode cX11_drawing 218 = .ok (.iadd, 1) := by decide +kernel
theorem dX11_drawing_219 : decode cX11_drawing 219 = .ok (.istore 10, 2) := by decide +kernel
theorem dX11_drawing_221 : decode cX11_drawing 221 = .ok (.iload 12, 2) := by decide +kernel
theorem dX11_drawing_223 : decode cX11_drawing 223 = .ok (.istore 11, 2) := by decide +kernel
theorem dX11_drawing_225 : decode cX11_drawing 225 = .ok (.iinc 12 (-1), 3) := by decide +kernel
theorem dX11_drawing_228 : decode cX11_drawing 228 = .ok (.goto (-63), 3) := by decide +kernel
theorem dX11_drawing_231 : decode cX11_drawing 231 = .ok (.iload 4, 2) := by decide +kernel
theorem dX11_drawing_233 : decode cX11_drawing 233 = .ok (.iload 10, 2) := by decide +kernel
theorem dX11_drawing_235 : decode cX11_drawing 235 = .ok (.ifCond .ne 7, 3) := by decide +kernel
theorem dX11_drawing_238 : decode cX11_drawing 238 = .ok (.iconst 1, 1) := by decide +kernel
theorem dX11_drawing_239 : decode cX11_drawing 239 = .ok (.goto 4, 3) := by decide +kernel
theorem dX11_drawing_242 : decode cX11_drawing 242 = .ok (.iconst 0, 1) := by decide +kernel
theorem dX11_drawing_243 : decode cX11_drawing 243 = .ok (.iadd, 1) := by decide +kernel
theorem dX11_drawing_244 : decode cX11_drawing 244 = .ok (.istore 4, 2) := by decide +kernel
theorem dX11_drawing_246 : decode cX11_drawing 246 = .ok (.iload 10, 2) := by decide +kernel
theorem dX11_drawing_248 : decode cX11_drawing 248 = .ok (.ifCond .ne 15, 3) := by decide +kernel
theorem dX11_drawing_251 : decode cX11_drawing 251 = .ok (.iload 5, 2) := by decide +kernel
theorem dX11_drawing_253 : decode cX11_drawing 253 = .ok (.ldc 100, 2) := by decide +kernel
theorem dX11_drawing_255 : decode cX11_drawing 255 = .ok (.if_icmp .ne 8, 3) := by decide +kernel
theorem dX11_drawing_258 : decode cX11_drawing 258 = .ok (.iload 9, 2) := by decide +kernel
theorem dX11_drawing_260 : decode cX11_drawing 260 = .ok (.goto 5, 3) := by decide +kernel
theorem dX11_drawing_263 : decode cX11_drawing 263 = .ok (.iload 5, 2) := by decide +kernel
theorem dX11_drawing_265 : decode cX11_drawing 265 = .ok (.istore 5, 2) := by decide +kernel
theorem dX11_drawing_267 : decode cX11_drawing 267 = .ok (.iload 10, 2) := by decide +kernel
theorem dX11_drawing_269 : decode cX11_drawing 269 = .ok (.iload 6, 2) := by decide +kernel
theorem dX11_drawing_271 : decode cX11_drawing 271 = .ok (.if_icmp .ge 8, 3) := by decide +kernel
theorem dX11_drawing_274 : decode cX11_drawing 274 = .ok (.iload 9, 2) := by decide +kernel
theorem dX11_drawing_276 : decode cX11_drawing 276 = .ok (.goto 5, 3) := by decide +kernel
theorem dX11_drawing_279 : decode cX11_drawing 279 = .ok (.iload 7, 2) := by decide +kernel
theorem dX11_drawing_281 : decode cX11_drawing 281 = .ok (.istore 7, 2) := by decide +kernel
theorem dX11_drawing_283 : decode cX11_drawing 283 = .ok (.iload 10, 2) := by decide +kernel
theorem dX11_drawing_285 : decode cX11_drawing 285 = .ok (.iload 6, 2) := by decide +kernel
theorem dX11_drawing_287 : decode cX11_drawing 287 = .ok (.if_icmp .ge 8, 3) := by decide +kernel
theorem dX11_drawing_290 : decode cX11_drawing 290 = .ok (.iload 10, 2) := by decide +kernel
theorem dX11_drawing_292 : decode cX11_drawing 292 = .ok (.goto 5, 3) := by decide +kernel
theorem dX11_drawing_295 : decode cX11_drawing 295 = .ok (.iload 6, 2) := by decide +kernel
theorem dX11_drawing_297 : decode cX11_drawing 297 = .ok (.istore 6, 2) := by decide +kernel
theorem dX11_drawing_299 : decode cX11_drawing 299 = .ok (.iload 11, 2) := by decide +kernel
theorem dX11_drawing_301 : decode cX11_drawing 301 = .ok (.iload 8, 2) := by decide +kernel
theorem dX11_drawing_303 : decode cX11_drawing 303 = .ok (.if_icmp .le 8, 3) := by decide +kernel
theorem dX11_drawing_306 : decode cX11_drawing 306 = .ok (.iload 11, 2) := by decide +kernel
theorem dX11_drawing_308 : decode cX11_drawing 308 = .ok (.goto 5, 3) := by decide +kernel
theorem dX11_drawing_311 : decode cX11_drawing 311 = .ok (.iload 8, 2) := by decide +kernel
theorem dX11_drawing_313 : decode cX11_drawing 313 = .ok (.istore 8, 2) := by decide +kernel
theorem dX11_drawing_315 : decode cX11_drawing 315 = .ok (.iinc 9 1, 3) := by decide +kernel
theorem dX11_drawing_318 : decode cX11_drawing 318 = .ok (.goto (-177), 3) := by decide +kernel
theorem dX11_drawing_321 : decode cX11_drawing 321 = .ok (.iload_n 3, 1) := by decide +kernel
theorem dX11_drawing_322 : decode cX11_drawing 322 = .ok (.ifCond .ne 8, 3) := by decide +kernel
theorem dX11_drawing_325 : decode cX11_drawing 325 = .ok (.iload 4, 2) := by decide +kernel
theorem dX11_drawing_327 : decode cX11_drawing 327 = .ok (.goto 47, 3) := by decide +kernel
theorem dX11_drawing_330 : decode cX11_drawing 330 = .ok (.iload_n 3, 1) := by decide +kernel
theorem dX11_drawing_331 : decode cX11_drawing 331 = .ok (.iconst 1, 1) := by decide +kernel
theorem dX11_drawing_332 : decode cX11_drawing 332 = .ok (.if_icmp .ne 8, 3) := by decide +kernel
theorem dX11_drawing_335 : decode cX11_drawing 335 = .ok (.iload 5, 2) := by decide +kernel
theorem dX11_drawing_337 : decode cX11_drawing 337 = .ok (.goto 37, 3) := by decide +kernel
theorem dX11_drawing_340 : decode cX11_drawing 340 = .ok (.iload_n 3, 1) := by decide +kernel
theorem dX11_drawing_341 : decode cX11_drawing 341 = .ok (.iconst 2, 1) := by decide +kernel
theorem dX11_drawing_342 : decode cX11_drawing 342 = .ok (.if_icmp .ne 8, 3) := by decide +kernel
theorem dX11_drawing_345 : decode cX11_drawing 345 = .ok (.iload 6, 2) := by decide +kernel
theorem dX11_drawing_347 : decode cX11_drawing 347 = .ok (.goto 27, 3) := by decide +kernel
theorem dX11_drawing_350 : decode cX11_drawing 350 = .ok (.iload_n 3, 1) := by decide +kernel
theorem dX11_drawing_351 : decode cX11_drawing 351 = .ok (.iconst 3, 1) := by decide +kernel
theorem dX11_drawing_352 : decode cX11_drawing 352 = .ok (.if_icmp .ne 8, 3) := by decide +kernel
theorem dX11_drawing_355 : decode cX11_drawing 355 = .ok (.iload 7, 2) := by decide +kernel
theorem dX11_drawing_357 : decode cX11_drawing 357 = .ok (.goto 17, 3) := by decide +kernel
theorem dX11_drawing_360 : decode cX11_drawing 360 = .ok (.iload 8, 2) := by decide +kernel
theorem dX11_drawing_362 : decode cX11_drawing 362 = .ok (.bipush 16, 2) := by decide +kernel
theorem dX11_drawing_364 : decode cX11_drawing 364 = .ok (.if_icmp .ne 8, 3) := by decide +kernel
theorem dX11_drawing_367 : decode cX11_drawing 367 = .ok (.ldc 100, 2) := by decide +kernel
theorem dX11_drawing_369 : decode cX11_drawing 369 = .ok (.goto 5, 3) := by decide +kernel
theorem dX11_drawing_372 : decode cX11_drawing 372 = .ok (.iload 8, 2) := by decide +kernel
theorem dX11_drawing_374 : decode cX11_drawing 374 = .ok (.ireturn, 1) := by decide +kernel
theorem dX11_feed_0 : decode cX11_feed 0 = .ok (.aload_n 0, 1) := by decide +kernel
theorem dX11_feed_1 : decode cX11_feed 1 = .ok (.iconst 0, 1) := by decide +kernel
theorem dX11_feed_2 : decode cX11_feed 2 = .ok (.putfield 52, 3) := by decide +kernel
theorem dX11_feed_5 : decode cX11_feed 5 = .ok (.iload_n 3, 1) := by decide +kernel
theorem dX11_feed_6 : decode cX11_feed 6 = .ok (.i2l, 1) := by decide +kernel
theorem dX11_feed_7 : decode cX11_feed 7 = .ok (.lconst 1, 1) := by decide +kernel
theorem dX11_feed_8 : decode cX11_feed 8 = .ok (.ldc2_w 105, 3) := by decide +kernel
theorem dX11_feed_11 : decode cX11_feed 11 = .ok (.invokestatic 62, 3) := by decide +kernel
theorem dX11_feed_14 : decode cX11_feed 14 = .ok (.ifCond .ne 6, 3) := by decide +kernel
theorem dX11_feed_17 : decode cX11_feed 17 = .ok (.ldc 72, 2) := by decide +kernel
theorem dX11_feed_19 : decode cX11_feed 19 = .ok (.ireturn, 1) := by decide +kernel
theorem dX11_feed_20 : decode cX11_feed 20 = .ok (.aload_n 0, 1) := by decide +kernel
theorem dX11_feed_21 : decode cX11_feed 21 = .ok (.getfield 107, 3) := by decide +kernel
theorem dX11_feed_24 : decode cX11_feed 24 = .ok (.iload_n 3, 1) := by decide +kernel
theorem dX11_feed_25 : decode cX11_feed 25 = .ok (.iadd, 1) := by decide +kernel
theorem dX11_feed_26 : decode cX11_feed 26 = .ok (.sipush 400, 3) := by decide +kernel
theorem dX11_feed_29 : decode cX11_feed 29 = .ok (.if_icmp .le 6, 3) := by decide +kernel
theorem dX11_feed_32 : decode cX11_feed 32 = .ok (.ldc 110, 2) := by decide +kernel
theorem dX11_feed_34 : decode cX11_feed 34 = .ok (.ireturn, 1) := by decide +kernel
theorem dX11_feed_35 : decode cX11_feed 35 = .ok (.iload_n 3, 1) := by decide +kernel
theorem dX11_feed_36 : decode cX11_feed 36 = .ok (.iconst 1, 1) := by decide +kernel
theorem dX11_feed_37 : decode cX11_feed 37 = .ok (.isub, 1) := by decide +kernel
theorem dX11_feed_38 : decode cX11_feed 38 = .ok (.istore 4, 2) := by decide +kernel
theorem dX11_feed_40 : decode cX11_feed 40 = .ok (.iload 4, 2) := by decide +kernel
theorem dX11_feed_42 : decode cX11_feed 42 = .ok (.ifCond .lt 40, 3) := by decide +kernel
theorem dX11_feed_45 : decode cX11_feed 45 = .ok (.aload_n 0, 1) := by decide +kernel
theorem dX11_feed_46 : decode cX11_feed 46 = .ok (.getfield 40, 3) := by decide +kernel
theorem dX11_feed_49 : decode cX11_feed 49 = .ok (.aload_n 0, 1) := by decide +kernel
theorem dX11_feed_50 : decode cX11_feed 50 = .ok (.getfield 107, 3) := by decide +kernel
theorem dX11_feed_53 : decode cX11_feed 53 = .ok (.lload_n 1, 1) := by decide +kernel
theorem dX11_feed_54 : decode cX11_feed 54 = .ok (.bipush 8, 2) := by decide +kernel
theorem dX11_feed_56 : decode cX11_feed 56 = .ok (.iload 4, 2) := by decide +kernel
theorem dX11_feed_58 : decode cX11_feed 58 = .ok (.imul, 1) := by decide +kernel
theorem dX11_feed_59 : decode cX11_feed 59 = .ok (.lshr, 1) := by decide +kernel
theorem dX11_feed_60 : decode cX11_feed 60 = .ok (.ldc2_w 111, 3) := by decide +kernel
theorem dX11_feed_63 : decode cX11_feed 63 = .ok (.land, 1) := by decide +kernel
theorem dX11_feed_64 : decode cX11_feed 64 = .ok (.l2i, 1) := by decide +kernel
theorem dX11_feed_65 : decode cX11_feed 65 = .ok (.iastore, 1) := by decide +kernel
theorem dX11_feed_66 : decode cX11_feed 66 = .ok (.aload_n 0, 1) := by decide +kernel
theorem dX11_feed_67 : decode cX11_feed 67 = .ok (.dup, 1) := by decide +kernel
theorem dX11_feed_68 : decode cX11_feed 68 = .ok (.getfield 107, 3) := by decide +kernel
theorem dX11_feed_71 : decode cX11_feed 71 = .ok (.iconst 1, 1) := by decide +kernel
theorem dX11_feed_72 : decode cX11_feed 72 = .ok (.iadd, 1) := by decide +kernel
theorem dX11_feed_73 : decode cX11_feed 73 = .ok (.putfield 107, 3) := by decide +kernel
theorem dX11_feed_76 : decode cX11_feed 76 = .ok (.iinc 4 (-1), 3) := by decide +kernel
theorem dX11_feed_79 : decode cX11_feed 79 = .ok (.goto (-39), 3) := by decide +kernel
theorem dX11_feed_82 : decode cX11_feed 82 = .ok (.aload_n 0, 1) := by decide +kernel
theorem dX11_feed_83 : decode cX11_feed 83 = .ok (.getfield 107, 3) := by decide +kernel
theorem dX11_feed_86 : decode cX11_feed 86 = .ok (.ireturn, 1) := by decide +kernel
theorem dX11_byteAt_0 : decode cX11_byteAt 0 = .ok (.iload_n 1, 1) := by decide +kernel
theorem dX11_byteAt_1 : decode cX11_byteAt 1 = .ok (.aload_n 0, 1) := by decide +kernel
theorem dX11_byteAt_2 : decode cX11_byteAt 2 = .ok (.getfield 113, 3) := by decide +kernel
theorem dX11_byteAt_5 : decode cX11_byteAt 5 = .ok (.if_icmp .ge 12, 3) := by decide +kernel
theorem dX11_byteAt_8 : decode cX11_byteAt 8 = .ok (.aload_n 0, 1) := by decide +kernel
theorem dX11_byteAt_9 : decode cX11_byteAt 9 = .ok (.getfield 40, 3) := by decide +kernel
theorem dX11_byteAt_12 : decode cX11_byteAt 12 = .ok (.iload_n 1, 1) := by decide +kernel
theorem dX11_byteAt_13 : decode cX11_byteAt 13 = .ok (.iaload, 1) := by decide +kernel
theorem dX11_byteAt_14 : decode cX11_byteAt 14 = .ok (.goto 5, 3) := by decide +kernel
theorem dX11_byteAt_17 : decode cX11_byteAt 17 = .ok (.ldc 100, 2) := by decide +kernel
theorem dX11_byteAt_19 : decode cX11_byteAt 19 = .ok (.ireturn, 1) := by decide +kernel
theorem dX11_isLetter_0 : decode cX11_isLetter 0 = .ok (.iload_n 0, 1) := by decide +kernel
theorem dX11_isLetter_1 : decode cX11_isLetter 1 = .ok (.bipush 97, 2) := by decide +kernel
theorem dX11_isLetter_3 : decode cX11_isLetter 3 = .ok (.if_icmp .lt 13, 3) := by decide +kernel
theorem dX11_isLetter_6 : decode cX11_isLetter 6 = .ok (.iload_n 0, 1) := by decide +kernel
theorem dX11_isLetter_7 : decode cX11_isLetter 7 = .ok (.bipush 122, 2) := by decide +kernel
theorem dX11_isLetter_9 : decode cX11_isLetter 9 = .ok (.if_icmp .gt 7, 3) := by decide +kernel
theorem dX11_isLetter_12 : decode cX11_isLetter 12 = .ok (.iconst 1, 1) := by decide +kernel
theorem dX11_isLetter_13 : decode cX11_isLetter 13 = .ok (.goto 4, 3) := by decide +kernel
theorem dX11_isLetter_16 : decode cX11_isLetter 16 = .ok (.iconst 0, 1) := by decide +kernel
theorem dX11_isLetter_17 : decode cX11_isLetter 17 = .ok (.ireturn, 1) := by decide +kernel
theorem dX11_isFigure_0 : decode cX11_isFigure 0 = .ok (.iload_n 0, 1) := by decide +kernel
theorem dX11_isFigure_1 : decode cX11_isFigure 1 = .ok (.bipush 48, 2) := by decide +kernel
theorem dX11_isFigure_3 : decode cX11_isFigure 3 = .ok (.if_icmp .lt 13, 3) := by decide +kernel
theorem dX11_isFigure_6 : decode cX11_isFigure 6 = .ok (.iload_n 0, 1) := by decide +kernel
theorem dX11_isFigure_7 : decode cX11_isFigure 7 = .ok (.bipush 57, 2) := by decide +kernel
theorem dX11_isFigure_9 : decode cX11_isFigure 9 = .ok (.if_icmp .gt 7, 3) := by decide +kernel
theorem dX11_isFigure_12 : decode cX11_isFigure 12 = .ok (.iconst 1, 1) := by decide +kernel
theorem dX11_isFigure_13 : decode cX11_isFigure 13 = .ok (.goto 4, 3) := by decide +kernel
theorem dX11_isFigure_16 : decode cX11_isFigure 16 = .ok (.iconst 0, 1) := by decide +kernel
theorem dX11_isFigure_17 : decode cX11_isFigure 17 = .ok (.ireturn, 1) := by decide +kernel
theorem dX11_step_0 : decode cX11_step 0 = .ok (.aload_n 0, 1) := by decide +kernel
theorem dX11_step_1 : decode cX11_step 1 = .ok (.aload_n 0, 1) := by decide +kernel
theorem dX11_step_2 : decode cX11_step 2 = .ok (.getfield 116, 3) := by decide +kernel
theorem dX11_step_5 : decode cX11_step 5 = .ok (.invokevirtual 119, 3) := by decide +kernel
theorem dX11_step_8 : decode cX11_step 8 = .ok (.bipush 32, 2) := by decide +kernel
theorem dX11_step_10 : decode cX11_step 10 = .ok (.if_icmp .eq 16, 3) := by decide +kernel
theorem dX11_step_13 : decode cX11_step 13 = .ok (.aload_n 0, 1) := by decide +kernel
theorem dX11_step_14 : decode cX11_step 14 = .ok (.aload_n 0, 1) := by decide +kernel
theorem dX11_step_15 : decode cX11_step 15 = .ok (.getfield 116, 3) := by decide +kernel
theorem dX11_step_18 : decode cX11_step 18 = .ok (.invokevirtual 119, 3) := by decide +kernel
theorem dX11_step_21 : decode cX11_step 21 = .ok (.bipush 10, 2) := by decide +kernel
theorem dX11_step_23 : decode cX11_step 23 = .ok (.if_icmp .ne 16, 3) := by decide +kernel
theorem dX11_step_26 : decode cX11_step 26 = .ok (.aload_n 0, 1) := by decide +kernel
theorem dX11_step_27 : decode cX11_step 27 = .ok (.dup, 1) := by decide +kernel
theorem dX11_step_28 : decode cX11_step 28 = .ok (.getfield 116, 3) := by decide +kernel
theorem dX11_step_31 : decode cX11_step 31 = .ok (.iconst 1, 1) := by decide +kernel
theorem dX11_step_32 : decode cX11_step 32 = .ok (.iadd, 1) := by decide +kernel
theorem dX11_step_33 : decode cX11_step 33 = .ok (.putfield 116, 3) := by decide +kernel
theorem dX11_step_36 : decode cX11_step 36 = .ok (.goto (-36), 3) := by decide +kernel
theorem dX11_step_39 : decode cX11_step 39 = .ok (.aload_n 0, 1) := by decide +kernel
theorem dX11_step_40 : decode cX11_step 40 = .ok (.aload_n 0, 1) := by decide +kernel
theorem dX11_step_41 : decode cX11_step 41 = .ok (.getfield 116, 3) := by decide +kernel
theorem dX11_step_44 : decode cX11_step 44 = .ok (.putfield 122, 3) := by decide +kernel
theorem dX11_step_47 : decode cX11_step 47 = .ok (.aload_n 0, 1) := by decide +kernel
theorem dX11_step_48 : decode cX11_step 48 = .ok (.aload_n 0, 1) := by decide +kernel
theorem dX11_step_49 : decode cX11_step 49 = .ok (.getfield 116, 3) := by decide +kernel
theorem dX11_step_52 : decode cX11_step 52 = .ok (.invokevirtual 119, 3) := by decide +kernel
theorem dX11_step_55 : decode cX11_step 55 = .ok (.istore_n 1, 1) := by decide +kernel
theorem dX11_step_56 : decode cX11_step 56 = .ok (.iload_n 1, 1) := by decide +kernel
theorem dX11_step_57 : decode cX11_step 57 = .ok (.ldc 100, 2) := by decide +kernel
theorem dX11_step_59 : decode cX11_step 59 = .ok (.if_icmp .ne 11, 3) := by decide +kernel
theorem dX11_step_62 : decode cX11_step 62 = .ok (.aload_n 0, 1) := by decide +kernel
theorem dX11_step_63 : decode cX11_step 63 = .ok (.iconst 1, 1) := by decide +kernel
theorem dX11_step_64 : decode cX11_step 64 = .ok (.putfield 125, 3) := by decide +kernel
theorem dX11_step_67 : decode cX11_step 67 = .ok (.goto 147, 3) := by decide +kernel
theorem dX11_step_70 : decode cX11_step 70 = .ok (.iload_n 1, 1) := by decide +kernel
theorem dX11_step_71 : decode cX11_step 71 = .ok (.invokestatic 128, 3) := by decide +kernel
theorem dX11_step_74 : decode cX11_step 74 = .ok (.ifCond .eq 56, 3) := by decide +kernel
theorem dX11_step_77 : decode cX11_step 77 = .ok (.aload_n 0, 1) := by decide +kernel
theorem dX11_step_78 : decode cX11_step 78 = .ok (.aload_n 0, 1) := by decide +kernel
theorem dX11_step_79 : decode cX11_step 79 = .ok (.getfield 116, 3) := by decide +kernel
theorem dX11_step_82 : decode cX11_step 82 = .ok (.invokevirtual 119, 3) := by decide +kernel
theorem dX11_step_85 : decode cX11_step 85 = .ok (.invokestatic 128, 3) := by decide +kernel
theorem dX11_step_88 : decode cX11_step 88 = .ok (.ifCond .eq 16, 3) := by decide +kernel
theorem dX11_step_91 : decode cX11_step 91 = .ok (.aload_n 0, 1) := by decide +kernel
theorem dX11_step_92 : decode cX11_step 92 = .ok (.dup, 1) := by decide +kernel
theorem dX11_step_93 : decode cX11_step 93 = .ok (.getfield 116, 3) := by decide +kernel
theorem dX11_step_96 : decode cX11_step 96 = .ok (.iconst 1, 1) := by decide +kernel
theorem dX11_step_97 : decode cX11_step 97 = .ok (.iadd, 1) := by decide +kernel
theorem dX11_step_98 : decode cX11_step 98 = .ok (.putfield 116, 3) := by decide +kernel
theorem dX11_step_101 : decode cX11_step 101 = .ok (.goto (-24), 3) := by decide +kernel
theorem dX11_step_104 : decode cX11_step 104 = .ok (.aload_n 0, 1) := by decide +kernel
theorem dX11_step_105 : decode cX11_step 105 = .ok (.aload_n 0, 1) := by decide +kernel
theorem dX11_step_106 : decode cX11_step 106 = .ok (.getfield 116, 3) := by decide +kernel
theorem dX11_step_109 : decode cX11_step 109 = .ok (.aload_n 0, 1) := by decide +kernel
theorem dX11_step_110 : decode cX11_step 110 = .ok (.getfield 122, 3) := by decide +kernel
theorem dX11_step_113 : decode cX11_step 113 = .ok (.isub, 1) := by decide +kernel
theorem dX11_step_114 : decode cX11_step 114 = .ok (.bipush 6, 2) := by decide +kernel
theorem dX11_step_116 : decode cX11_step 116 = .ok (.if_icmp .le 7, 3) := by decide +kernel
theorem dX11_step_119 : decode cX11_step 119 = .ok (.iconst 0, 1) := by decide +kernel
theorem dX11_step_120 : decode cX11_step 120 = .ok (.goto 4, 3) := by decide +kernel
theorem dX11_step_123 : decode cX11_step 123 = .ok (.iconst 2, 1) := by decide +kernel
theorem dX11_step_124 : decode cX11_step 124 = .ok (.putfield 125, 3) := by decide +kernel
theorem dX11_step_127 : decode cX11_step 127 = .ok (.goto 87, 3) := by decide +kernel
theorem dX11_step_130 : decode cX11_step 130 = .ok (.iload_n 1, 1) := by decide +kernel
theorem dX11_step_131 : decode cX11_step 131 = .ok (.invokestatic 131, 3) := by decide +kernel
theorem dX11_step_134 : decode cX11_step 134 = .ok (.ifCond .eq 55, 3) := by decide +kernel
theorem dX11_step_137 : decode cX11_step 137 = .ok (.aload_n 0, 1) := by decide +kernel
theorem dX11_step_138 : decode cX11_step 138 = .ok (.aload_n 0, 1) := by decide +kernel
theorem dX11_step_139 : decode cX11_step 139 = .ok (.getfield 116, 3) := by decide +kernel
theorem dX11_step_142 : decode cX11_step 142 = .ok (.invokevirtual 119, 3) := by decide +kernel
theorem dX11_step_145 : decode cX11_step 145 = .ok (.invokestatic 131, 3) := by decide +kernel
theorem dX11_step_148 : decode cX11_step 148 = .ok (.ifCond .eq 16, 3) := by decide +kernel
theorem dX11_step_151 : decode cX11_step 151 = .ok (.aload_n 0, 1) := by decide +kernel
theorem dX11_step_152 : decode cX11_step 152 = .ok (.dup, 1) := by decide +kernel
theorem dX11_step_153 : decode cX11_step 153 = .ok (.getfield 116, 3) := by decide +kernel
theorem dX11_step_156 : decode cX11_step 156 = .ok (.iconst 1, 1) := by decide +kernel
theorem dX11_step_157 : decode cX11_step 157 = .ok (.iadd, 1) := by decide +kernel
theorem dX11_step_158 : decode cX11_step 158 = .ok (.putfield 116, 3) := by decide +kernel
theorem dX11_step_161 : decode cX11_step 161 = .ok (.goto (-24), 3) := by decide +kernel
theorem dX11_step_164 : decode cX11_step 164 = .ok (.aload_n 0, 1) := by decide +kernel
theorem dX11_step_165 : decode cX11_step 165 = .ok (.aload_n 0, 1) := by decide +kernel
theorem dX11_step_166 : decode cX11_step 166 = .ok (.getfield 116, 3) := by decide +kernel
theorem dX11_step_169 : decode cX11_step 169 = .ok (.aload_n 0, 1) := by decide +kernel
theorem dX11_step_170 : decode cX11_step 170 = .ok (.getfield 122, 3) := by decide +kernel
theorem dX11_step_173 : decode cX11_step 173 = .ok (.isub, 1) := by decide +kernel
theorem dX11_step_174 : decode cX11_step 174 = .ok (.iconst 4, 1) := by decide +kernel
theorem dX11_step_175 : decode cX11_step 175 = .ok (.if_icmp .le 7, 3) := by decide +kernel
theorem dX11_step_178 : decode cX11_step 178 = .ok (.iconst 0, 1) := by decide +kernel
theorem dX11_step_179 : decode cX11_step 179 = .ok (.goto 4, 3) := by decide +kernel
theorem dX11_step_182 : decode cX11_step 182 = .ok (.iconst 3, 1) := by decide +kernel
theorem dX11_step_183 : decode cX11_step 183 = .ok (.putfield 125, 3) := by decide +kernel
theorem dX11_step_186 : decode cX11_step 186 = .ok (.goto 28, 3) := by decide +kernel
theorem dX11_step_189 : decode cX11_step 189 = .ok (.aload_n 0, 1) := by decide +kernel
theorem dX11_step_190 : decode cX11_step 190 = .ok (.dup, 1) := by decide +kernel
theorem dX11_step_191 : decode cX11_step 191 = .ok (.getfield 116, 3) := by decide +kernel
theorem dX11_step_194 : decode cX11_step 194 = .ok (.iconst 1, 1) := by decide +kernel
theorem dX11_step_195 : decode cX11_step 195 = .ok (.iadd, 1) := by decide +kernel
theorem dX11_step_196 : decode cX11_step 196 = .ok (.putfield 116, 3) := by decide +kernel
theorem dX11_step_199 : decode cX11_step 199 = .ok (.aload_n 0, 1) := by decide +kernel
theorem dX11_step_200 : decode cX11_step 200 = .ok (.iload_n 1, 1) := by decide +kernel
theorem dX11_step_201 : decode cX11_step 201 = .ok (.bipush 59, 2) := by decide +kernel
theorem dX11_step_203 : decode cX11_step 203 = .ok (.if_icmp .ne 7, 3) := by decide +kernel
theorem dX11_step_206 : decode cX11_step 206 = .ok (.iconst 4, 1) := by decide +kernel
theorem dX11_step_207 : decode cX11_step 207 = .ok (.goto 4, 3) := by decide +kernel
theorem dX11_step_210 : decode cX11_step 210 = .ok (.iconst 0, 1) := by decide +kernel
theorem dX11_step_211 : decode cX11_step 211 = .ok (.putfield 125, 3) := by decide +kernel
theorem dX11_step_214 : decode cX11_step 214 = .ok (.aload_n 0, 1) := by decide +kernel
theorem dX11_step_215 : decode cX11_step 215 = .ok (.aload_n 0, 1) := by decide +kernel
theorem dX11_step_216 : decode cX11_step 216 = .ok (.getfield 116, 3) := by decide +kernel
theorem dX11_step_219 : decode cX11_step 219 = .ok (.putfield 134, 3) := by decide +kernel
theorem dX11_step_222 : decode cX11_step 222 = .ok (.return_, 1) := by decide +kernel
theorem dX11_bad_0 : decode cX11_bad 0 = .ok (.aload_n 0, 1) := by decide +kernel
theorem dX11_bad_1 : decode cX11_bad 1 = .ok (.getfield 137, 3) := by decide +kernel
theorem dX11_bad_4 : decode cX11_bad 4 = .ok (.ifCond .ne 16, 3) := by decide +kernel
theorem dX11_bad_7 : decode cX11_bad 7 = .ok (.aload_n 0, 1) := by decide +kernel
theorem dX11_bad_8 : decode cX11_bad 8 = .ok (.iload_n 1, 1) := by decide +kernel
theorem dX11_bad_9 : decode cX11_bad 9 = .ok (.putfield 137, 3) := by decide +kernel
theorem dX11_bad_12 : decode cX11_bad 12 = .ok (.aload_n 0, 1) := by decide +kernel
theorem dX11_bad_13 : decode cX11_bad 13 = .ok (.aload_n 0, 1) := by decide +kernel
theorem dX11_bad_14 : decode cX11_bad 14 = .ok (.getfield 122, 3) := by decide +kernel
theorem dX11_bad_17 : decode cX11_bad 17 = .ok (.putfield 140, 3) := by decide +kernel
theorem dX11_bad_20 : decode cX11_bad 20 = .ok (.return_, 1) := by decide +kernel
theorem dX11_need_0 : decode cX11_need 0 = .ok (.iload_n 1, 1) := by decide +kernel
theorem dX11_need_1 : decode cX11_need 1 = .ok (.ifCond .ne 8, 3) := by decide +kernel
theorem dX11_need_4 : decode cX11_need 4 = .ok (.aload_n 0, 1) := by decide +kernel
theorem dX11_need_5 : decode cX11_need 5 = .ok (.iconst 1, 1) := by decide +kernel
theorem dX11_need_6 : decode cX11_need 6 = .ok (.invokevirtual 143, 3) := by decide +kernel
theorem dX11_need_9 : decode cX11_need 9 = .ok (.aload_n 0, 1) := by decide +kernel
theorem dX11_need_10 : decode cX11_need 10 = .ok (.getfield 137, 3) := by decide +kernel
theorem dX11_need_13 : decode cX11_need 13 = .ok (.ifCond .ne 7, 3) := by decide +kernel
theorem dX11_need_16 : decode cX11_need 16 = .ok (.aload_n 0, 1) := by decide +kernel
theorem dX11_need_17 : decode cX11_need 17 = .ok (.invokevirtual 146, 3) := by decide +kernel
theorem dX11_need_20 : decode cX11_need 20 = .ok (.return_, 1) := by decide +kernel
theorem dX11_word_0 : decode cX11_word 0 = .ok (.lconst 0, 1) := by decide +kernel
theorem dX11_word_1 : decode cX11_word 1 = .ok (.lstore_n 1, 1) := by decide +kernel
theorem dX11_word_2 : decode cX11_word 2 = .ok (.aload_n 0, 1) := by decide +kernel
theorem dX11_word_3 : decode cX11_word 3 = .ok (.getfield 122, 3) := by decide +kernel
theorem dX11_word_6 : decode cX11_word 6 = .ok (.istore_n 3, 1) := by decide +kernel
theorem dX11_word_7 : decode cX11_word 7 = .ok (.iload_n 3, 1) := by decide +kernel
theorem dX11_word_8 : decode cX11_word 8 = .ok (.aload_n 0, 1) := by decide +kernel
theorem dX11_word_9 : decode cX11_word 9 = .ok (.getfield 134, 3) := by decide +kernel
theorem dX11_word_12 : decode cX11_word 12 = .ok (.if_icmp .ge 30, 3) := by decide +kernel
theorem dX11_word_15 : decode cX11_word 15 = .ok (.aload_n 0, 1) := by decide +kernel
theorem dX11_word_16 : decode cX11_word 16 = .ok (.getfield 125, 3) := by decide +kernel
theorem dX11_word_19 : decode cX11_word 19 = .ok (.iconst 2, 1) := by decide +kernel
theorem dX11_word_20 : decode cX11_word 20 = .ok (.if_icmp .ne 22, 3) := by decide +kernel
theorem dX11_word_23 : decode cX11_word 23 = .ok (.lload_n 1, 1) := by decide +kernel
theorem dX11_word_24 : decode cX11_word 24 = .ok (.bipush 8, 2) := by decide +kernel
theorem dX11_word_26 : decode cX11_word 26 = .ok (.lshl, 1) := by decide +kernel
theorem dX11_word_27 : decode cX11_word 27 = .ok (.aload_n 0, 1) := by decide +kernel
theorem dX11_word_28 : decode cX11_word 28 = .ok (.getfield 40, 3) := by decide +kernel
theorem dX11_word_31 : decode cX11_word 31 = .ok (.iload_n 3, 1) := by decide +kernel
theorem dX11_word_32 : decode cX11_word 32 = .ok (.iaload, 1) := by decide +kernel
theorem dX11_word_33 : decode cX11_word 33 = .ok (.i2l, 1) := by decide +kernel
theorem dX11_word_34 : decode cX11_word 34 = .ok (.lor, 1) := by decide +kernel
theorem dX11_word_35 : decode cX11_word 35 = .ok (.lstore_n 1, 1) := by decide +kernel
theorem dX11_word_36 : decode cX11_word 36 = .ok (.iinc 3 1, 3) := by decide +kernel
theorem dX11_word_39 : decode cX11_word 39 = .ok (.goto (-32), 3) := by decide +kernel
theorem dX11_word_42 : decode cX11_word 42 = .ok (.lload_n 1, 1) := by decide +kernel
theorem dX11_word_43 : decode cX11_word 43 = .ok (.lreturn, 1) := by decide +kernel
theorem dX11_numberIn_0 : decode cX11_numberIn 0 = .ok (.iconst 0, 1) := by decide +kernel
theorem dX11_numberIn_1 : decode cX11_numberIn 1 = .ok (.istore_n 3, 1) := by decide +kernel
theorem dX11_numberIn_2 : decode cX11_numberIn 2 = .ok (.aload_n 0, 1) := by decide +kernel
theorem dX11_numberIn_3 : decode cX11_numberIn 3 = .ok (.getfield 122, 3) := by decide +kernel
theorem dX11_numberIn_6 : decode cX11_numberIn 6 = .ok (.istore 4, 2) := by decide +kernel
theorem dX11_numberIn_8 : decode cX11_numberIn 8 = .ok (.iload 4, 2) := by decide +kernel
theorem dX11_numberIn_10 : decode cX11_numberIn 10 = .ok (.aload_n 0, 1) := by decide +kernel
theorem dX11_numberIn_11 : decode cX11_numberIn 11 = .ok (.getfield 134, 3) := by decide +kernel
theorem dX11_numberIn_14 : decode cX11_numberIn 14 = .ok (.if_icmp .ge 33, 3) := by decide +kernel
theorem dX11_numberIn_17 : decode cX11_numberIn 17 = .ok (.aload_n 0, 1) := by decide +kernel
theorem dX11_numberIn_18 : decode cX11_numberIn 18 = .ok (.getfield 125, 3) := by decide +kernel
theorem dX11_numberIn_21 : decode cX11_numberIn 21 = .ok (.iconst 3, 1) := by decide +kernel
theorem dX11_numberIn_22 : decode cX11_numberIn 22 = .ok (.if_icmp .ne 25, 3) := by decide +kernel
theorem dX11_numberIn_25 : decode cX11_numberIn 25 = .ok (.bipush 10, 2) := by decide +kernel
theorem dX11_numberIn_27 : decode cX11_numberIn 27 = .ok (.iload_n 3, 1) := by decide +kernel
theorem dX11_numberIn_28 : decode cX11_numberIn 28 = .ok (.imul, 1) := by decide +kernel
theorem dX11_numberIn_29 : decode cX11_numberIn 29 = .ok (.aload_n 0, 1) := by decide +kernel
theorem dX11_numberIn_30 : decode cX11_numberIn 30 = .ok (.getfield 40, 3) := by decide +kernel
theorem dX11_numberIn_33 : decode cX11_numberIn 33 = .ok (.iload 4, 2) := by decide +kernel
theorem dX11_numberIn_35 : decode cX11_numberIn 35 = .ok (.iaload, 1) := by decide +kernel
theorem dX11_numberIn_36 : decode cX11_numberIn 36 = .ok (.iadd, 1) := by decide +kernel
theorem dX11_numberIn_37 : decode cX11_numberIn 37 = .ok (.bipush 48, 2) := by decide +kernel
theorem dX11_numberIn_39 : decode cX11_numberIn 39 = .ok (.isub, 1) := by decide +kernel
theorem dX11_numberIn_40 : decode cX11_numberIn 40 = .ok (.istore_n 3, 1) := by decide +kernel
theorem dX11_numberIn_41 : decode cX11_numberIn 41 = .ok (.iinc 4 1, 3) := by decide +kernel
theorem dX11_numberIn_44 : decode cX11_numberIn 44 = .ok (.goto (-36), 3) := by decide +kernel
theorem dX11_numberIn_47 : decode cX11_numberIn 47 = .ok (.aload_n 0, 1) := by decide +kernel
theorem dX11_numberIn_48 : decode cX11_numberIn 48 = .ok (.getfield 125, 3) := by decide +kernel
theorem dX11_numberIn_51 : decode cX11_numberIn 51 = .ok (.iconst 3, 1) := by decide +kernel
theorem dX11_numberIn_52 : decode cX11_numberIn 52 = .ok (.if_icmp .ne 20, 3) := by decide +kernel
theorem dX11_numberIn_55 : decode cX11_numberIn 55 = .ok (.iload_n 3, 1) := by decide +kernel
theorem dX11_numberIn_56 : decode cX11_numberIn 56 = .ok (.i2l, 1) := by decide +kernel
theorem dX11_numberIn_57 : decode cX11_numberIn 57 = .ok (.iload_n 1, 1) := by decide +kernel
theorem dX11_numberIn_58 : decode cX11_numberIn 58 = .ok (.i2l, 1) := by decide +kernel
theorem dX11_numberIn_59 : decode cX11_numberIn 59 = .ok (.iload_n 2, 1) := by decide +kernel
theorem dX11_numberIn_60 : decode cX11_numberIn 60 = .ok (.i2l, 1) := by decide +kernel
theorem dX11_numberIn_61 : decode cX11_numberIn 61 = .ok (.invokestatic 62, 3) := by decide +kernel
theorem dX11_numberIn_64 : decode cX11_numberIn 64 = .ok (.ifCond .ne 8, 3) := by decide +kernel
theorem dX11_numberIn_67 : decode cX11_numberIn 67 = .ok (.aload_n 0, 1) := by decide +kernel
theorem dX11_numberIn_68 : decode cX11_numberIn 68 = .ok (.iconst 2, 1) := by decide +kernel
theorem dX11_numberIn_69 : decode cX11_numberIn 69 = .ok (.invokevirtual 143, 3) := by decide +kernel
theorem dX11_numberIn_72 : decode cX11_numberIn 72 = .ok (.aload_n 0, 1) := by decide +kernel
theorem dX11_numberIn_73 : decode cX11_numberIn 73 = .ok (.aload_n 0, 1) := by decide +kernel
theorem dX11_numberIn_74 : decode cX11_numberIn 74 = .ok (.getfield 125, 3) := by decide +kernel
theorem dX11_numberIn_77 : decode cX11_numberIn 77 = .ok (.iconst 3, 1) := by decide +kernel
theorem dX11_numberIn_78 : decode cX11_numberIn 78 = .ok (.if_icmp .ne 7, 3) := by decide +kernel
theorem dX11_numberIn_81 : decode cX11_numberIn 81 = .ok (.iconst 1, 1) := by decide +kernel
theorem dX11_numberIn_82 : decode cX11_numberIn 82 = .ok (.goto 4, 3) := by decide +kernel
theorem dX11_numberIn_85 : decode cX11_numberIn 85 = .ok (.iconst 0, 1) := by decide +kernel
theorem dX11_numberIn_86 : decode cX11_numberIn 86 = .ok (.invokevirtual 149, 3) := by decide +kernel
theorem dX11_numberIn_89 : decode cX11_numberIn 89 = .ok (.iload_n 3, 1) := by decide +kernel
theorem dX11_numberIn_90 : decode cX11_numberIn 90 = .ok (.ireturn, 1) := by decide +kernel
theorem dX11_readTest_0 : decode cX11_readTest 0 = .ok (.bipush 12, 2) := by decide +kernel
theorem dX11_readTest_2 : decode cX11_readTest 2 = .ok (.aload_n 0, 1) := by decide +kernel
theorem dX11_readTest_3 : decode cX11_readTest 3 = .ok (.getfield 153, 3) := by decide +kernel
theorem dX11_readTest_6 : decode cX11_readTest 6 = .ok (.imul, 1) := by decide +kernel
theorem dX11_readTest_7 : decode cX11_readTest 7 = .ok (.iconst 3, 1) := by decide +kernel
theorem dX11_readTest_8 : decode cX11_readTest 8 = .ok (.iload_n 1, 1) := by decide +kernel
theorem dX11_readTest_9 : decode cX11_readTest 9 = .ok (.imul, 1) := by decide +kernel
theorem dX11_readTest_10 : decode cX11_readTest 10 = .ok (.iadd, 1) := by decide +kernel
theorem dX11_readTest_11 : decode cX11_readTest 11 = .ok (.istore_n 2, 1) := by decide +kernel
theorem dX11_readTest_12 : decode cX11_readTest 12 = .ok (.aload_n 0, 1) := by decide +kernel
theorem dX11_readTest_13 : decode cX11_readTest 13 = .ok (.invokevirtual 156, 3) := by decide +kernel
theorem dX11_readTest_16 : decode cX11_readTest 16 = .ok (.lstore_n 3, 1) := by decide +kernel
theorem dX11_readTest_17 : decode cX11_readTest 17 = .ok (.lload_n 3, 1) := by decide +kernel
theorem dX11_readTest_18 : decode cX11_readTest 18 = .ok (.ldc2_w 160, 3) := by decide +kernel
theorem dX11_readTest_21 : decode cX11_readTest 21 = .ok (.lcmp, 1) := by decide +kernel
theorem dX11_readTest_22 : decode cX11_readTest 22 = .ok (.ifCond .ne 7, 3) := by decide +kernel
theorem dX11_readTest_25 : decode cX11_readTest 25 = .ok (.iconst 1, 1) := by decide +kernel
theorem dX11_readTest_26 : decode cX11_readTest 26 = .ok (.goto 40, 3) := by decide +kernel
theorem dX11_readTest_29 : decode cX11_readTest 29 = .ok (.lload_n 3, 1) := by decide +kernel
theorem dX11_readTest_30 : decode cX11_readTest 30 = .ok (.ldc2_w 162, 3) := by decide +kernel
theorem dX11_readTest_33 : decode cX11_readTest 33 = .ok (.lcmp, 1) := by decide +kernel
theorem dX11_readTest_34 : decode cX11_readTest 34 = .ok (.ifCond .ne 7, 3) := by decide +kernel
theorem dX11_readTest_37 : decode cX11_readTest 37 = .ok (.iconst 2, 1) := by decide +kernel
theorem dX11_readTest_38 : decode cX11_readTest 38 = .ok (.goto 28, 3) := by decide +kernel
theorem dX11_readTest_41 : decode cX11_readTest 41 = .ok (.lload_n 3, 1) := by decide +kernel
theorem dX11_readTest_42 : decode cX11_readTest 42 = .ok (.ldc2_w 164, 3) := by decide +kernel
theorem dX11_readTest_45 : decode cX11_readTest 45 = .ok (.lcmp, 1) := by decide +kernel
theorem dX11_readTest_46 : decode cX11_readTest 46 = .ok (.ifCond .ne 7, 3) := by decide +kernel
theorem dX11_readTest_49 : decode cX11_readTest 49 = .ok (.iconst 3, 1) := by decide +kernel
theorem dX11_readTest_50 : decode cX11_readTest 50 = .ok (.goto 16, 3) := by decide +kernel
theorem dX11_readTest_53 : decode cX11_readTest 53 = .ok (.lload_n 3, 1) := by decide +kernel
theorem dX11_readTest_54 : decode cX11_readTest 54 = .ok (.ldc2_w 166, 3) := by decide +kernel
theorem dX11_readTest_57 : decode cX11_readTest 57 = .ok (.lcmp, 1) := by decide +kernel
theorem dX11_readTest_58 : decode cX11_readTest 58 = .ok (.ifCond .ne 7, 3) := by decide +kernel
theorem dX11_readTest_61 : decode cX11_readTest 61 = .ok (.iconst 4, 1) := by decide +kernel
theorem dX11_readTest_62 : decode cX11_readTest 62 = .ok (.goto 4, 3) := by decide +kernel
theorem dX11_readTest_65 : decode cX11_readTest 65 = .ok (.iconst 0, 1) := by decide +kernel
theorem dX11_readTest_66 : decode cX11_readTest 66 = .ok (.istore 5, 2) := by decide +kernel
theorem dX11_readTest_68 : decode cX11_readTest 68 = .ok (.aload_n 0, 1) := by decide +kernel
theorem dX11_readTest_69 : decode cX11_readTest 69 = .ok (.iload 5, 2) := by decide +kernel
theorem dX11_readTest_71 : decode cX11_readTest 71 = .ok (.ifCond .le 7, 3) := by decide +kernel
theorem dX11_readTest_74 : decode cX11_readTest 74 = .ok (.iconst 1, 1) := by decide +kernel
theorem dX11_readTest_75 : decode cX11_readTest 75 = .ok (.goto 4, 3) := by decide +kernel
theorem dX11_readTest_78 : decode cX11_readTest 78 = .ok (.iconst 0, 1) := by decide +kernel
theorem dX11_readTest_79 : decode cX11_readTest 79 = .ok (.invokevirtual 149, 3) := by decide +kernel
theorem dX11_readTest_82 : decode cX11_readTest 82 = .ok (.aload_n 0, 1) := by decide +kernel
theorem dX11_readTest_83 : decode cX11_readTest 83 = .ok (.getfield 137, 3) := by decide +kernel
theorem dX11_readTest_86 : decode cX11_readTest 86 = .ok (.ifCond .le 4, 3) := by decide +kernel
theorem dX11_readTest_89 : decode cX11_readTest 89 = .ok (.return_, 1) := by decide +kernel
theorem dX11_readTest_90 : decode cX11_readTest 90 = .ok (.aload_n 0, 1) := by decide +kernel
theorem dX11_readTest_91 : decode cX11_readTest 91 = .ok (.getfield 34, 3) := by decide +kernel
theorem dX11_readTest_94 : decode cX11_readTest 94 = .ok (.iload_n 2, 1) := by decide +kernel
theorem dX11_readTest_95 : decode cX11_readTest 95 = .ok (.iload 5, 2) := by decide +kernel
theorem dX11_readTest_97 : decode cX11_readTest 97 = .ok (.iastore, 1) := by decide +kernel
theorem dX11_readTest_98 : decode cX11_readTest 98 = .ok (.aload_n 0, 1) := by decide +kernel
theorem dX11_readTest_99 : decode cX11_readTest 99 = .ok (.getfield 34, 3) := by decide +kernel
theorem dX11_readTest_102 : decode cX11_readTest 102 = .ok (.iload_n 2, 1) := by decide +kernel
theorem dX11_readTest_103 : decode cX11_readTest 103 = .ok (.iconst 1, 1) := by decide +kernel
theorem dX11_readTest_104 : decode cX11_readTest 104 = .ok (.iadd, 1) := by decide +kernel
theorem dX11_readTest_105 : decode cX11_readTest 105 = .ok (.iload 5, 2) := by decide +kernel
theorem dX11_readTest_107 : decode cX11_readTest 107 = .ok (.iconst 3, 1) := by decide +kernel
theorem dX11_readTest_108 : decode cX11_readTest 108 = .ok (.if_icmp .ne 13, 3) := by decide +kernel
theorem dX11_readTest_111 : decode cX11_readTest 111 = .ok (.aload_n 0, 1) := by decide +kernel
theorem dX11_readTest_112 : decode cX11_readTest 112 = .ok (.iconst 1, 1) := by decide +kernel
theorem dX11_readTest_113 : decode cX11_readTest 113 = .ok (.bipush 11, 2) := by decide +kernel
theorem dX11_readTest_115 : decode cX11_readTest 115 = .ok (.invokevirtual 168, 3) := by decide +kernel
theorem dX11_readTest_118 : decode cX11_readTest 118 = .ok (.goto 10, 3) := by decide +kernel
theorem dX11_readTest_121 : decode cX11_readTest 121 = .ok (.aload_n 0, 1) := by decide +kernel
theorem dX11_readTest_122 : decode cX11_readTest 122 = .ok (.iconst 0, 1) := by decide +kernel
theorem dX11_readTest_123 : decode cX11_readTest 123 = .ok (.bipush 15, 2) := by decide +kernel
theorem dX11_readTest_125 : decode cX11_readTest 125 = .ok (.invokevirtual 168, 3) := by decide +kernel
theorem dX11_readTest_128 : decode cX11_readTest 128 = .ok (.iastore, 1) := by decide +kernel
theorem dX11_readTest_129 : decode cX11_readTest 129 = .ok (.iload 5, 2) := by decide +kernel
theorem dX11_readTest_131 : decode cX11_readTest 131 = .ok (.iconst 1, 1) := by decide +kernel
theorem dX11_readTest_132 : decode cX11_readTest 132 = .ok (.if_icmp .ne 23, 3) := by decide +kernel
theorem dX11_readTest_135 : decode cX11_readTest 135 = .ok (.aload_n 0, 1) := by decide +kernel
theorem dX11_readTest_136 : decode cX11_readTest 136 = .ok (.aload_n 0, 1) := by decide +kernel
theorem dX11_readTest_137 : decode cX11_readTest 137 = .ok (.invokevirtual 156, 3) := by decide +kernel
theorem dX11_readTest_140 : decode cX11_readTest 140 = .ok (.ldc2_w 172, 3) := by decide +kernel
theorem dX11_readTest_143 : decode cX11_readTest 143 = .ok (.lcmp, 1) := by decide +kernel
theorem dX11_readTest_144 : decode cX11_readTest 144 = .ok (.ifCond .ne 7, 3) := by decide +kernel
theorem dX11_readTest_147 : decode cX11_readTest 147 = .ok (.iconst 1, 1) := by decide +kernel
theorem dX11_readTest_148 : decode cX11_readTest 148 = .ok (.goto 4, 3) := by decide +kernel
theorem dX11_readTest_151 : decode cX11_readTest 151 = .ok (.iconst 0, 1) := by decide +kernel
theorem dX11_readTest_152 : decode cX11_readTest 152 = .ok (.invokevirtual 149, 3) := by decide +kernel
theorem dX11_readTest_155 : decode cX11_readTest 155 = .ok (.aload_n 0, 1) := by decide +kernel
theorem dX11_readTest_156 : decode cX11_readTest 156 = .ok (.getfield 34, 3) := by decide +kernel
theorem dX11_readTest_159 : decode cX11_readTest 159 = .ok (.iload_n 2, 1) := by decide +kernel
theorem dX11_readTest_160 : decode cX11_readTest 160 = .ok (.iconst 2, 1) := by decide +kernel
theorem dX11_readTest_161 : decode cX11_readTest 161 = .ok (.iadd, 1) := by decide +kernel
theorem dX11_readTest_162 : decode cX11_readTest 162 = .ok (.iload 5, 2) := by decide +kernel
theorem dX11_readTest_164 : decode cX11_readTest 164 = .ok (.iconst 1, 1) := by decide +kernel
theorem dX11_readTest_165 : decode cX11_readTest 165 = .ok (.if_icmp .eq 9, 3) := by decide +kernel
theorem dX11_readTest_168 : decode cX11_readTest 168 = .ok (.iload 5, 2) := by decide +kernel
theorem dX11_readTest_170 : decode cX11_readTest 170 = .ok (.iconst 2, 1) := by decide +kernel
theorem dX11_readTest_171 : decode cX11_readTest 171 = .ok (.if_icmp .ne 13, 3) := by decide +kernel
theorem dX11_readTest_174 : decode cX11_readTest 174 = .ok (.aload_n 0, 1) := by decide +kernel
theorem dX11_readTest_175 : decode cX11_readTest 175 = .ok (.iconst 0, 1) := by decide +kernel
theorem dX11_readTest_176 : decode cX11_readTest 176 = .ok (.bipush 15, 2) := by decide +kernel
theorem dX11_readTest_178 : decode cX11_readTest 178 = .ok (.invokevirtual 168, 3) := by decide +kernel
theorem dX11_readTest_181 : decode cX11_readTest 181 = .ok (.goto 4, 3) := by decide +kernel
theorem dX11_readTest_184 : decode cX11_readTest 184 = .ok (.iconst 0, 1) := by decide +kernel
theorem dX11_readTest_185 : decode cX11_readTest 185 = .ok (.iastore, 1) := by decide +kernel
theorem dX11_readTest_186 : decode cX11_readTest 186 = .ok (.return_, 1) := by decide +kernel
theorem dX11_readRule_0 : decode cX11_readRule 0 = .ok (.aload_n 0, 1) := by decide +kernel
theorem dX11_readRule_1 : decode cX11_readRule 1 = .ok (.invokevirtual 156, 3) := by decide +kernel
theorem dX11_readRule_4 : decode cX11_readRule 4 = .ok (.ldc2_w 174, 3) := by decide +kernel
theorem dX11_readRule_7 : decode cX11_readRule 7 = .ok (.lcmp, 1) := by decide +kernel
theorem dX11_readRule_8 : decode cX11_readRule 8 = .ok (.ifCond .ne 17, 3) := by decide +kernel
theorem dX11_readRule_11 : decode cX11_readRule 11 = .ok (.aload_n 0, 1) := by decide +kernel
theorem dX11_readRule_12 : decode cX11_readRule 12 = .ok (.getfield 153, 3) := by decide +kernel
theorem dX11_readRule_15 : decode cX11_readRule 15 = .ok (.bipush 15, 2) := by decide +kernel
theorem dX11_readRule_17 : decode cX11_readRule 17 = .ok (.if_icmp .ne 8, 3) := by decide +kernel
theorem dX11_readRule_20 : decode cX11_readRule 20 = .ok (.aload_n 0, 1) := by decide +kernel
theorem dX11_readRule_21 : decode cX11_readRule 21 = .ok (.iconst 3, 1) := by decide +kernel
theorem dX11_readRule_22 : decode cX11_readRule 22 = .ok (.invokevirtual 143, 3) := by decide +kernel
theorem dX11_readRule_25 : decode cX11_readRule 25 = .ok (.aload_n 0, 1) := by decide +kernel
theorem dX11_readRule_26 : decode cX11_readRule 26 = .ok (.aload_n 0, 1) := by decide +kernel
theorem dX11_readRule_27 : decode cX11_readRule 27 = .ok (.invokevirtual 156, 3) := by decide +kernel
theorem dX11_readRule_30 : decode cX11_readRule 30 = .ok (.ldc2_w 174, 3) := by decide +kernel
theorem dX11_readRule_33 : decode cX11_readRule 33 = .ok (.lcmp, 1) := by decide +kernel
theorem dX11_readRule_34 : decode cX11_readRule 34 = .ok (.ifCond .ne 7, 3) := by decide +kernel
theorem dX11_readRule_37 : decode cX11_readRule 37 = .ok (.iconst 1, 1) := by decide +kernel
theorem dX11_readRule_38 : decode cX11_readRule 38 = .ok (.goto 4, 3) := by decide +kernel
theorem dX11_readRule_41 : decode cX11_readRule 41 = .ok (.iconst 0, 1) := by decide +kernel
theorem dX11_readRule_42 : decode cX11_readRule 42 = .ok (.invokevirtual 149, 3) := by decide +kernel
theorem dX11_readRule_45 : decode cX11_readRule 45 = .ok (.iconst 0, 1) := by decide +kernel
theorem dX11_readRule_46 : decode cX11_readRule 46 = .ok (.istore_n 1, 1) := by decide +kernel
theorem dX11_readRule_47 : decode cX11_readRule 47 = .ok (.aload_n 0, 1) := by decide +kernel
theorem dX11_readRule_48 : decode cX11_readRule 48 = .ok (.getfield 137, 3) := by decide +kernel
theorem dX11_readRule_51 : decode cX11_readRule 51 = .ok (.ifCond .ne 11, 3) := by decide +kernel
theorem dX11_readRule_54 : decode cX11_readRule 54 = .ok (.aload_n 0, 1) := by decide +kernel
theorem dX11_readRule_55 : decode cX11_readRule 55 = .ok (.iload_n 1, 1) := by decide +kernel
theorem dX11_readRule_56 : decode cX11_readRule 56 = .ok (.invokevirtual 176, 3) := by decide +kernel
theorem dX11_readRule_59 : decode cX11_readRule 59 = .ok (.iinc 1 1, 3) := by decide +kernel
theorem dX11_readRule_62 : decode cX11_readRule 62 = .ok (.aload_n 0, 1) := by decide +kernel
theorem dX11_readRule_63 : decode cX11_readRule 63 = .ok (.getfield 137, 3) := by decide +kernel
theorem dX11_readRule_66 : decode cX11_readRule 66 = .ok (.ifCond .ne 42, 3) := by decide +kernel
theorem dX11_readRule_69 : decode cX11_readRule 69 = .ok (.aload_n 0, 1) := by decide +kernel
theorem dX11_readRule_70 : decode cX11_readRule 70 = .ok (.invokevirtual 156, 3) := by decide +kernel
theorem dX11_readRule_73 : decode cX11_readRule 73 = .ok (.ldc2_w 178, 3) := by decide +kernel
theorem dX11_readRule_76 : decode cX11_readRule 76 = .ok (.lcmp, 1) := by decide +kernel
theorem dX11_readRule_77 : decode cX11_readRule 77 = .ok (.ifCond .ne 31, 3) := by decide +kernel
theorem dX11_readRule_80 : decode cX11_readRule 80 = .ok (.iload_n 1, 1) := by decide +kernel
theorem dX11_readRule_81 : decode cX11_readRule 81 = .ok (.iconst 4, 1) := by decide +kernel
theorem dX11_readRule_82 : decode cX11_readRule 82 = .ok (.if_icmp .ne 11, 3) := by decide +kernel
theorem dX11_readRule_85 : decode cX11_readRule 85 = .ok (.aload_n 0, 1) := by decide +kernel
theorem dX11_readRule_86 : decode cX11_readRule 86 = .ok (.iconst 3, 1) := by decide +kernel
theorem dX11_readRule_87 : decode cX11_readRule 87 = .ok (.invokevirtual 143, 3) := by decide +kernel
theorem dX11_readRule_90 : decode cX11_readRule 90 = .ok (.goto (-28), 3) := by decide +kernel
theorem dX11_readRule_93 : decode cX11_readRule 93 = .ok (.aload_n 0, 1) := by decide +kernel
theorem dX11_readRule_94 : decode cX11_readRule 94 = .ok (.invokevirtual 146, 3) := by decide +kernel
theorem dX11_readRule_97 : decode cX11_readRule 97 = .ok (.aload_n 0, 1) := by decide +kernel
theorem dX11_readRule_98 : decode cX11_readRule 98 = .ok (.iload_n 1, 1) := by decide +kernel
theorem dX11_readRule_99 : decode cX11_readRule 99 = .ok (.invokevirtual 176, 3) := by decide +kernel
theorem dX11_readRule_102 : decode cX11_readRule 102 = .ok (.iinc 1 1, 3) := by decide +kernel
theorem dX11_readRule_105 : decode cX11_readRule 105 = .ok (.goto (-43), 3) := by decide +kernel
theorem dX11_readRule_108 : decode cX11_readRule 108 = .ok (.aload_n 0, 1) := by decide +kernel
theorem dX11_readRule_109 : decode cX11_readRule 109 = .ok (.getfield 137, 3) := by decide +kernel
theorem dX11_readRule_112 : decode cX11_readRule 112 = .ok (.ifCond .ne 23, 3) := by decide +kernel
theorem dX11_readRule_115 : decode cX11_readRule 115 = .ok (.aload_n 0, 1) := by decide +kernel
theorem dX11_readRule_116 : decode cX11_readRule 116 = .ok (.aload_n 0, 1) := by decide +kernel
theorem dX11_readRule_117 : decode cX11_readRule 117 = .ok (.invokevirtual 156, 3) := by decide +kernel
theorem dX11_readRule_120 : decode cX11_readRule 120 = .ok (.ldc2_w 180, 3) := by decide +kernel
theorem dX11_readRule_123 : decode cX11_readRule 123 = .ok (.lcmp, 1) := by decide +kernel
theorem dX11_readRule_124 : decode cX11_readRule 124 = .ok (.ifCond .ne 7, 3) := by decide +kernel
theorem dX11_readRule_127 : decode cX11_readRule 127 = .ok (.iconst 1, 1) := by decide +kernel
theorem dX11_readRule_128 : decode cX11_readRule 128 = .ok (.goto 4, 3) := by decide +kernel
theorem dX11_readRule_131 : decode cX11_readRule 131 = .ok (.iconst 0, 1) := by decide +kernel
theorem dX11_readRule_132 : decode cX11_readRule 132 = .ok (.invokevirtual 149, 3) := by decide +kernel
theorem dX11_readRule_135 : decode cX11_readRule 135 = .ok (.aload_n 0, 1) := by decide +kernel
theorem dX11_readRule_136 : decode cX11_readRule 136 = .ok (.getfield 137, 3) := by decide +kernel
theorem dX11_readRule_139 : decode cX11_readRule 139 = .ok (.ifCond .ne 14, 3) := by decide +kernel
theorem dX11_readRule_142 : decode cX11_readRule 142 = .ok (.aload_n 0, 1) := by decide +kernel
theorem dX11_readRule_143 : decode cX11_readRule 143 = .ok (.iconst 0, 1) := by decide +kernel
theorem dX11_readRule_144 : decode cX11_readRule 144 = .ok (.sipush 9999, 3) := by decide +kernel
theorem dX11_readRule_147 : decode cX11_readRule 147 = .ok (.invokevirtual 168, 3) := by decide +kernel
theorem dX11_readRule_150 : decode cX11_readRule 150 = .ok (.goto 4, 3) := by decide +kernel
theorem dX11_readRule_153 : decode cX11_readRule 153 = .ok (.iconst 0, 1) := by decide +kernel
theorem dX11_readRule_154 : decode cX11_readRule 154 = .ok (.istore_n 2, 1) := by decide +kernel
theorem dX11_readRule_155 : decode cX11_readRule 155 = .ok (.aload_n 0, 1) := by decide +kernel
theorem dX11_readRule_156 : decode cX11_readRule 156 = .ok (.getfield 137, 3) := by decide +kernel
theorem dX11_readRule_159 : decode cX11_readRule 159 = .ok (.ifCond .ne 20, 3) := by decide +kernel
theorem dX11_readRule_162 : decode cX11_readRule 162 = .ok (.aload_n 0, 1) := by decide +kernel
theorem dX11_readRule_163 : decode cX11_readRule 163 = .ok (.aload_n 0, 1) := by decide +kernel
theorem dX11_readRule_164 : decode cX11_readRule 164 = .ok (.getfield 125, 3) := by decide +kernel
theorem dX11_readRule_167 : decode cX11_readRule 167 = .ok (.iconst 4, 1) := by decide +kernel
theorem dX11_readRule_168 : decode cX11_readRule 168 = .ok (.if_icmp .ne 7, 3) := by decide +kernel
theorem dX11_readRule_171 : decode cX11_readRule 171 = .ok (.iconst 1, 1) := by decide +kernel
theorem dX11_readRule_172 : decode cX11_readRule 172 = .ok (.goto 4, 3) := by decide +kernel
theorem dX11_readRule_175 : decode cX11_readRule 175 = .ok (.iconst 0, 1) := by decide +kernel
theorem dX11_readRule_176 : decode cX11_readRule 176 = .ok (.invokevirtual 149, 3) := by decide +kernel
theorem dX11_readRule_179 : decode cX11_readRule 179 = .ok (.aload_n 0, 1) := by decide +kernel
theorem dX11_readRule_180 : decode cX11_readRule 180 = .ok (.getfield 137, 3) := by decide +kernel
theorem dX11_readRule_183 : decode cX11_readRule 183 = .ok (.ifCond .ne 33, 3) := by decide +kernel
theorem dX11_readRule_186 : decode cX11_readRule 186 = .ok (.aload_n 0, 1) := by decide +kernel
theorem dX11_readRule_187 : decode cX11_readRule 187 = .ok (.getfield 31, 3) := by decide +kernel
theorem dX11_readRule_190 : decode cX11_readRule 190 = .ok (.aload_n 0, 1) := by decide +kernel
theorem dX11_readRule_191 : decode cX11_readRule 191 = .ok (.getfield 153, 3) := by decide +kernel
