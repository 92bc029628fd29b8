theorem dX7_isLane_10 : decode cX7_isLane 10 = .ok (.goto 4, 3) := by decide +kernel
theorem dX7_isLane_13 : decode cX7_isLane 13 = .ok (.iconst 0, 1) := by decide +kernel
theorem dX7_isLane_14 : decode cX7_isLane 14 = .ok (.ireturn, 1) := by decide +kernel
theorem dX7_isMissing_0 : decode cX7_isMissing 0 = .ok (.aload_n 0, 1) := by decide +kernel
theorem dX7_isMissing_1 : decode cX7_isMissing 1 = .ok (.getfield 15, 3) := by decide +kernel
theorem dX7_isMissing_4 : decode cX7_isMissing 4 = .ok (.iconst (-1), 1) := by decide +kernel
theorem dX7_isMissing_5 : decode cX7_isMissing 5 = .ok (.if_icmp .ne 7, 3) := by decide +kernel
theorem dX7_isMissing_8 : decode cX7_isMissing 8 = .ok (.iconst 1, 1) := by decide +kernel
theorem dX7_isMissing_9 : decode cX7_isMissing 9 = .ok (.goto 4, 3) := by decide +kernel
theorem dX7_isMissing_12 : decode cX7_isMissing 12 = .ok (.iconst 0, 1) := by decide +kernel
theorem dX7_isMissing_13 : decode cX7_isMissing 13 = .ok (.ireturn, 1) := by decide +kernel
theorem dX7_begin_0 : decode cX7_begin 0 = .ok (.aload_n 0, 1) := by decide +kernel
theorem dX7_begin_1 : decode cX7_begin 1 = .ok (.iload_n 1, 1) := by decide +kernel
theorem dX7_begin_2 : decode cX7_begin 2 = .ok (.putfield 15, 3) := by decide +kernel
theorem dX7_begin_5 : decode cX7_begin 5 = .ok (.aload_n 0, 1) := by decide +kernel
theorem dX7_begin_6 : decode cX7_begin 6 = .ok (.iload_n 2, 1) := by decide +kernel
theorem dX7_begin_7 : decode cX7_begin 7 = .ok (.putfield 19, 3) := by decide +kernel
theorem dX7_begin_10 : decode cX7_begin 10 = .ok (.iconst 0, 1) := by decide +kernel
theorem dX7_begin_11 : decode cX7_begin 11 = .ok (.istore_n 3, 1) := by decide +kernel
theorem dX7_begin_12 : decode cX7_begin 12 = .ok (.iload_n 3, 1) := by decide +kernel
theorem dX7_begin_13 : decode cX7_begin 13 = .ok (.bipush 60, 2) := by decide +kernel
theorem dX7_begin_15 : decode cX7_begin 15 = .ok (.if_icmp .ge 16, 3) := by decide +kernel
theorem dX7_begin_18 : decode cX7_begin 18 = .ok (.aload_n 0, 1) := by decide +kernel
theorem dX7_begin_19 : decode cX7_begin 19 = .ok (.getfield 11, 3) := by decide +kernel
theorem dX7_begin_22 : decode cX7_begin 22 = .ok (.iload_n 3, 1) := by decide +kernel
theorem dX7_begin_23 : decode cX7_begin 23 = .ok (.iconst 0, 1) := by decide +kernel
theorem dX7_begin_24 : decode cX7_begin 24 = .ok (.iastore, 1) := by decide +kernel
theorem dX7_begin_25 : decode cX7_begin 25 = .ok (.iinc 3 1, 3) := by decide +kernel
theorem dX7_begin_28 : decode cX7_begin 28 = .ok (.goto (-16), 3) := by decide +kernel
theorem dX7_begin_31 : decode cX7_begin 31 = .ok (.return_, 1) := by decide +kernel
theorem dX7_forget_0 : decode cX7_forget 0 = .ok (.aload_n 0, 1) := by decide +kernel
theorem dX7_forget_1 : decode cX7_forget 1 = .ok (.iconst (-1), 1) := by decide +kernel
theorem dX7_forget_2 : decode cX7_forget 2 = .ok (.putfield 15, 3) := by decide +kernel
theorem dX7_forget_5 : decode cX7_forget 5 = .ok (.aload_n 0, 1) := by decide +kernel
theorem dX7_forget_6 : decode cX7_forget 6 = .ok (.iconst 0, 1) := by decide +kernel
theorem dX7_forget_7 : decode cX7_forget 7 = .ok (.putfield 19, 3) := by decide +kernel
theorem dX7_forget_10 : decode cX7_forget 10 = .ok (.return_, 1) := by decide +kernel
theorem dX7_hasItems_0 : decode cX7_hasItems 0 = .ok (.iload_n 2, 1) := by decide +kernel
theorem dX7_hasItems_1 : decode cX7_hasItems 1 = .ok (.ifCond .lt 21, 3) := by decide +kernel
theorem dX7_hasItems_4 : decode cX7_hasItems 4 = .ok (.iload_n 1, 1) := by decide +kernel
theorem dX7_hasItems_5 : decode cX7_hasItems 5 = .ok (.ifCond .lt 17, 3) := by decide +kernel
theorem dX7_hasItems_8 : decode cX7_hasItems 8 = .ok (.iload_n 1, 1) := by decide +kernel
theorem dX7_hasItems_9 : decode cX7_hasItems 9 = .ok (.aload_n 0, 1) := by decide +kernel
theorem dX7_hasItems_10 : decode cX7_hasItems 10 = .ok (.getfield 19, 3) := by decide +kernel
theorem dX7_hasItems_13 : decode cX7_hasItems 13 = .ok (.iload_n 2, 1) := by decide +kernel
theorem dX7_hasItems_14 : decode cX7_hasItems 14 = .ok (.isub, 1) := by decide +kernel
theorem dX7_hasItems_15 : decode cX7_hasItems 15 = .ok (.if_icmp .gt 7, 3) := by decide +kernel
theorem dX7_hasItems_18 : decode cX7_hasItems 18 = .ok (.iconst 1, 1) := by decide +kernel
theorem dX7_hasItems_19 : decode cX7_hasItems 19 = .ok (.goto 4, 3) := by decide +kernel
theorem dX7_hasItems_22 : decode cX7_hasItems 22 = .ok (.iconst 0, 1) := by decide +kernel
theorem dX7_hasItems_23 : decode cX7_hasItems 23 = .ok (.ireturn, 1) := by decide +kernel
theorem dX7_findingOf_0 : decode cX7_findingOf 0 = .ok (.aload_n 0, 1) := by decide +kernel
theorem dX7_findingOf_1 : decode cX7_findingOf 1 = .ok (.invokevirtual 22, 3) := by decide +kernel
theorem dX7_findingOf_4 : decode cX7_findingOf 4 = .ok (.ifCond .eq 5, 3) := by decide +kernel
theorem dX7_findingOf_7 : decode cX7_findingOf 7 = .ok (.iconst 1, 1) := by decide +kernel
theorem dX7_findingOf_8 : decode cX7_findingOf 8 = .ok (.ireturn, 1) := by decide +kernel
theorem dX7_findingOf_9 : decode cX7_findingOf 9 = .ok (.aload_n 0, 1) := by decide +kernel
theorem dX7_findingOf_10 : decode cX7_findingOf 10 = .ok (.iload_n 1, 1) := by decide +kernel
theorem dX7_findingOf_11 : decode cX7_findingOf 11 = .ok (.iload_n 2, 1) := by decide +kernel
theorem dX7_findingOf_12 : decode cX7_findingOf 12 = .ok (.invokevirtual 26, 3) := by decide +kernel
theorem dX7_findingOf_15 : decode cX7_findingOf 15 = .ok (.ifCond .eq 7, 3) := by decide +kernel
theorem dX7_findingOf_18 : decode cX7_findingOf 18 = .ok (.iconst 0, 1) := by decide +kernel
theorem dX7_findingOf_19 : decode cX7_findingOf 19 = .ok (.goto 4, 3) := by decide +kernel
theorem dX7_findingOf_22 : decode cX7_findingOf 22 = .ok (.iconst 2, 1) := by decide +kernel
theorem dX7_findingOf_23 : decode cX7_findingOf 23 = .ok (.ireturn, 1) := by decide +kernel
theorem dX7_put_0 : decode cX7_put 0 = .ok (.aload_n 0, 1) := by decide +kernel
theorem dX7_put_1 : decode cX7_put 1 = .ok (.iload_n 1, 1) := by decide +kernel
theorem dX7_put_2 : decode cX7_put 2 = .ok (.iconst 1, 1) := by decide +kernel
theorem dX7_put_3 : decode cX7_put 3 = .ok (.invokevirtual 26, 3) := by decide +kernel
theorem dX7_put_6 : decode cX7_put 6 = .ok (.ifCond .ne 6, 3) := by decide +kernel
theorem dX7_put_9 : decode cX7_put 9 = .ok (.ldc 30, 2) := by decide +kernel
theorem dX7_put_11 : decode cX7_put 11 = .ok (.ireturn, 1) := by decide +kernel
theorem dX7_put_12 : decode cX7_put 12 = .ok (.aload_n 0, 1) := by decide +kernel
theorem dX7_put_13 : decode cX7_put 13 = .ok (.getfield 11, 3) := by decide +kernel
theorem dX7_put_16 : decode cX7_put 16 = .ok (.iload_n 1, 1) := by decide +kernel
theorem dX7_put_17 : decode cX7_put 17 = .ok (.aload_n 0, 1) := by decide +kernel
theorem dX7_put_18 : decode cX7_put 18 = .ok (.iload_n 2, 1) := by decide +kernel
theorem dX7_put_19 : decode cX7_put 19 = .ok (.invokevirtual 31, 3) := by decide +kernel
theorem dX7_put_22 : decode cX7_put 22 = .ok (.iastore, 1) := by decide +kernel
theorem dX7_put_23 : decode cX7_put 23 = .ok (.aload_n 0, 1) := by decide +kernel
theorem dX7_put_24 : decode cX7_put 24 = .ok (.getfield 11, 3) := by decide +kernel
theorem dX7_put_27 : decode cX7_put 27 = .ok (.iload_n 1, 1) := by decide +kernel
theorem dX7_put_28 : decode cX7_put 28 = .ok (.iaload, 1) := by decide +kernel
theorem dX7_put_29 : decode cX7_put 29 = .ok (.ireturn, 1) := by decide +kernel
theorem dX7_narrowed_0 : decode cX7_narrowed 0 = .ok (.aload_n 0, 1) := by decide +kernel
theorem dX7_narrowed_1 : decode cX7_narrowed 1 = .ok (.getfield 15, 3) := by decide +kernel
theorem dX7_narrowed_4 : decode cX7_narrowed 4 = .ok (.ifCond .ne 6, 3) := by decide +kernel
theorem dX7_narrowed_7 : decode cX7_narrowed 7 = .ok (.iload_n 1, 1) := by decide +kernel
theorem dX7_narrowed_8 : decode cX7_narrowed 8 = .ok (.i2b, 1) := by decide +kernel
theorem dX7_narrowed_9 : decode cX7_narrowed 9 = .ok (.ireturn, 1) := by decide +kernel
theorem dX7_narrowed_10 : decode cX7_narrowed 10 = .ok (.aload_n 0, 1) := by decide +kernel
theorem dX7_narrowed_11 : decode cX7_narrowed 11 = .ok (.getfield 15, 3) := by decide +kernel
theorem dX7_narrowed_14 : decode cX7_narrowed 14 = .ok (.iconst 1, 1) := by decide +kernel
theorem dX7_narrowed_15 : decode cX7_narrowed 15 = .ok (.if_icmp .ne 8, 3) := by decide +kernel
theorem dX7_narrowed_18 : decode cX7_narrowed 18 = .ok (.iload_n 1, 1) := by decide +kernel
theorem dX7_narrowed_19 : decode cX7_narrowed 19 = .ok (.i2s, 1) := by decide +kernel
theorem dX7_narrowed_20 : decode cX7_narrowed 20 = .ok (.goto 4, 3) := by decide +kernel
theorem dX7_narrowed_23 : decode cX7_narrowed 23 = .ok (.iload_n 1, 1) := by decide +kernel
theorem dX7_narrowed_24 : decode cX7_narrowed 24 = .ok (.ireturn, 1) := by decide +kernel
theorem dX7_areWithin_0 : decode cX7_areWithin 0 = .ok (.aload_n 0, 1) := by decide +kernel
theorem dX7_areWithin_1 : decode cX7_areWithin 1 = .ok (.iload_n 1, 1) := by decide +kernel
theorem dX7_areWithin_2 : decode cX7_areWithin 2 = .ok (.iload_n 2, 1) := by decide +kernel
theorem dX7_areWithin_3 : decode cX7_areWithin 3 = .ok (.invokevirtual 26, 3) := by decide +kernel
theorem dX7_areWithin_6 : decode cX7_areWithin 6 = .ok (.ifCond .ne 5, 3) := by decide +kernel
theorem dX7_areWithin_9 : decode cX7_areWithin 9 = .ok (.iconst 0, 1) := by decide +kernel
theorem dX7_areWithin_10 : decode cX7_areWithin 10 = .ok (.ireturn, 1) := by decide +kernel
theorem dX7_areWithin_11 : decode cX7_areWithin 11 = .ok (.iconst 0, 1) := by decide +kernel
theorem dX7_areWithin_12 : decode cX7_areWithin 12 = .ok (.istore 5, 2) := by decide +kernel
theorem dX7_areWithin_14 : decode cX7_areWithin 14 = .ok (.iload 5, 2) := by decide +kernel
theorem dX7_areWithin_16 : decode cX7_areWithin 16 = .ok (.iload_n 2, 1) := by decide +kernel
theorem dX7_areWithin_17 : decode cX7_areWithin 17 = .ok (.if_icmp .ge 38, 3) := by decide +kernel
theorem dX7_areWithin_20 : decode cX7_areWithin 20 = .ok (.aload_n 0, 1) := by decide +kernel
theorem dX7_areWithin_21 : decode cX7_areWithin 21 = .ok (.getfield 11, 3) := by decide +kernel
theorem dX7_areWithin_24 : decode cX7_areWithin 24 = .ok (.iload_n 1, 1) := by decide +kernel
theorem dX7_areWithin_25 : decode cX7_areWithin 25 = .ok (.iload 5, 2) := by decide +kernel
theorem dX7_areWithin_27 : decode cX7_areWithin 27 = .ok (.iadd, 1) := by decide +kernel
theorem dX7_areWithin_28 : decode cX7_areWithin 28 = .ok (.iaload, 1) := by decide +kernel
theorem dX7_areWithin_29 : decode cX7_areWithin 29 = .ok (.iload_n 3, 1) := by decide +kernel
theorem dX7_areWithin_30 : decode cX7_areWithin 30 = .ok (.if_icmp .lt 17, 3) := by decide +kernel
theorem dX7_areWithin_33 : decode cX7_areWithin 33 = .ok (.aload_n 0, 1) := by decide +kernel
theorem dX7_areWithin_34 : decode cX7_areWithin 34 = .ok (.getfield 11, 3) := by decide +kernel
theorem dX7_areWithin_37 : decode cX7_areWithin 37 = .ok (.iload_n 1, 1) := by decide +kernel
theorem dX7_areWithin_38 : decode cX7_areWithin 38 = .ok (.iload 5, 2) := by decide +kernel
theorem dX7_areWithin_40 : decode cX7_areWithin 40 = .ok (.iadd, 1) := by decide +kernel
theorem dX7_areWithin_41 : decode cX7_areWithin 41 = .ok (.iaload, 1) := by decide +kernel
theorem dX7_areWithin_42 : decode cX7_areWithin 42 = .ok (.iload 4, 2) := by decide +kernel
theorem dX7_areWithin_44 : decode cX7_areWithin 44 = .ok (.if_icmp .le 5, 3) := by decide +kernel
theorem dX7_areWithin_47 : decode cX7_areWithin 47 = .ok (.iconst 0, 1) := by decide +kernel
theorem dX7_areWithin_48 : decode cX7_areWithin 48 = .ok (.ireturn, 1) := by decide +kernel
theorem dX7_areWithin_49 : decode cX7_areWithin 49 = .ok (.iinc 5 1, 3) := by decide +kernel
theorem dX7_areWithin_52 : decode cX7_areWithin 52 = .ok (.goto (-38), 3) := by decide +kernel
theorem dX7_areWithin_55 : decode cX7_areWithin 55 = .ok (.iconst 1, 1) := by decide +kernel
theorem dX7_areWithin_56 : decode cX7_areWithin 56 = .ok (.ireturn, 1) := by decide +kernel
theorem dX7_oddOnes_0 : decode cX7_oddOnes 0 = .ok (.iconst 0, 1) := by decide +kernel
theorem dX7_oddOnes_1 : decode cX7_oddOnes 1 = .ok (.istore_n 2, 1) := by decide +kernel
theorem dX7_oddOnes_2 : decode cX7_oddOnes 2 = .ok (.aload_n 0, 1) := by decide +kernel
theorem dX7_oddOnes_3 : decode cX7_oddOnes 3 = .ok (.iload_n 1, 1) := by decide +kernel
theorem dX7_oddOnes_4 : decode cX7_oddOnes 4 = .ok (.bipush 16, 2) := by decide +kernel
theorem dX7_oddOnes_6 : decode cX7_oddOnes 6 = .ok (.invokevirtual 26, 3) := by decide +kernel
theorem dX7_oddOnes_9 : decode cX7_oddOnes 9 = .ok (.ifCond .eq 32, 3) := by decide +kernel
theorem dX7_oddOnes_12 : decode cX7_oddOnes 12 = .ok (.iconst 0, 1) := by decide +kernel
theorem dX7_oddOnes_13 : decode cX7_oddOnes 13 = .ok (.istore_n 3, 1) := by decide +kernel
theorem dX7_oddOnes_14 : decode cX7_oddOnes 14 = .ok (.iload_n 3, 1) := by decide +kernel
theorem dX7_oddOnes_15 : decode cX7_oddOnes 15 = .ok (.bipush 16, 2) := by decide +kernel
theorem dX7_oddOnes_17 : decode cX7_oddOnes 17 = .ok (.if_icmp .ge 24, 3) := by decide +kernel
theorem dX7_oddOnes_20 : decode cX7_oddOnes 20 = .ok (.iload_n 2, 1) := by decide +kernel
theorem dX7_oddOnes_21 : decode cX7_oddOnes 21 = .ok (.aload_n 0, 1) := by decide +kernel
theorem dX7_oddOnes_22 : decode cX7_oddOnes 22 = .ok (.getfield 11, 3) := by decide +kernel
theorem dX7_oddOnes_25 : decode cX7_oddOnes 25 = .ok (.iload_n 1, 1) := by decide +kernel
theorem dX7_oddOnes_26 : decode cX7_oddOnes 26 = .ok (.iload_n 3, 1) := by decide +kernel
theorem dX7_oddOnes_27 : decode cX7_oddOnes 27 = .ok (.iadd, 1) := by decide +kernel
theorem dX7_oddOnes_28 : decode cX7_oddOnes 28 = .ok (.iaload, 1) := by decide +kernel
theorem dX7_oddOnes_29 : decode cX7_oddOnes 29 = .ok (.iconst 1, 1) := by decide +kernel
theorem dX7_oddOnes_30 : decode cX7_oddOnes 30 = .ok (.iand, 1) := by decide +kernel
theorem dX7_oddOnes_31 : decode cX7_oddOnes 31 = .ok (.iload_n 3, 1) := by decide +kernel
theorem dX7_oddOnes_32 : decode cX7_oddOnes 32 = .ok (.ishl, 1) := by decide +kernel
theorem dX7_oddOnes_33 : decode cX7_oddOnes 33 = .ok (.ior, 1) := by decide +kernel
theorem dX7_oddOnes_34 : decode cX7_oddOnes 34 = .ok (.istore_n 2, 1) := by decide +kernel
theorem dX7_oddOnes_35 : decode cX7_oddOnes 35 = .ok (.iinc 3 1, 3) := by decide +kernel
theorem dX7_oddOnes_38 : decode cX7_oddOnes 38 = .ok (.goto (-24), 3) := by decide +kernel
theorem dX7_oddOnes_41 : decode cX7_oddOnes 41 = .ok (.iload_n 2, 1) := by decide +kernel
theorem dX7_oddOnes_42 : decode cX7_oddOnes 42 = .ok (.ireturn, 1) := by decide +kernel
theorem dX7_drawnRows_0 : decode cX7_drawnRows 0 = .ok (.lconst 0, 1) := by decide +kernel
theorem dX7_drawnRows_1 : decode cX7_drawnRows 1 = .ok (.lstore_n 2, 1) := by decide +kernel
theorem dX7_drawnRows_2 : decode cX7_drawnRows 2 = .ok (.aload_n 0, 1) := by decide +kernel
theorem dX7_drawnRows_3 : decode cX7_drawnRows 3 = .ok (.iload_n 1, 1) := by decide +kernel
theorem dX7_drawnRows_4 : decode cX7_drawnRows 4 = .ok (.bipush 16, 2) := by decide +kernel
theorem dX7_drawnRows_6 : decode cX7_drawnRows 6 = .ok (.invokevirtual 26, 3) := by decide +kernel
theorem dX7_drawnRows_9 : decode cX7_drawnRows 9 = .ok (.ifCond .eq 52, 3) := by decide +kernel
theorem dX7_drawnRows_12 : decode cX7_drawnRows 12 = .ok (.iconst 0, 1) := by decide +kernel
theorem dX7_drawnRows_13 : decode cX7_drawnRows 13 = .ok (.istore 4, 2) := by decide +kernel
theorem dX7_drawnRows_15 : decode cX7_drawnRows 15 = .ok (.iload 4, 2) := by decide +kernel
theorem dX7_drawnRows_17 : decode cX7_drawnRows 17 = .ok (.bipush 16, 2) := by decide +kernel
theorem dX7_drawnRows_19 : decode cX7_drawnRows 19 = .ok (.if_icmp .ge 42, 3) := by decide +kernel
theorem dX7_drawnRows_22 : decode cX7_drawnRows 22 = .ok (.aload_n 0, 1) := by decide +kernel
theorem dX7_drawnRows_23 : decode cX7_drawnRows 23 = .ok (.getfield 11, 3) := by decide +kernel
theorem dX7_drawnRows_26 : decode cX7_drawnRows 26 = .ok (.iload_n 1, 1) := by decide +kernel
theorem dX7_drawnRows_27 : decode cX7_drawnRows 27 = .ok (.iload 4, 2) := by decide +kernel
theorem dX7_drawnRows_29 : decode cX7_drawnRows 29 = .ok (.iadd, 1) := by decide +kernel
theorem dX7_drawnRows_30 : decode cX7_drawnRows 30 = .ok (.iaload, 1) := by decide +kernel
theorem dX7_drawnRows_31 : decode cX7_drawnRows 31 = .ok (.iconst (-1), 1) := by decide +kernel
theorem dX7_drawnRows_32 : decode cX7_drawnRows 32 = .ok (.if_icmp .ne 7, 3) := by decide +kernel
theorem dX7_drawnRows_35 : decode cX7_drawnRows 35 = .ok (.lload_n 2, 1) := by decide +kernel
theorem dX7_drawnRows_36 : decode cX7_drawnRows 36 = .ok (.goto 18, 3) := by decide +kernel
theorem dX7_drawnRows_39 : decode cX7_drawnRows 39 = .ok (.lload_n 2, 1) := by decide +kernel
theorem dX7_drawnRows_40 : decode cX7_drawnRows 40 = .ok (.iload 4, 2) := by decide +kernel
theorem dX7_drawnRows_42 : decode cX7_drawnRows 42 = .ok (.aload_n 0, 1) := by decide +kernel
theorem dX7_drawnRows_43 : decode cX7_drawnRows 43 = .ok (.getfield 11, 3) := by decide +kernel
theorem dX7_drawnRows_46 : decode cX7_drawnRows 46 = .ok (.iload_n 1, 1) := by decide +kernel
theorem dX7_drawnRows_47 : decode cX7_drawnRows 47 = .ok (.iload 4, 2) := by decide +kernel
theorem dX7_drawnRows_49 : decode cX7_drawnRows 49 = .ok (.iadd, 1) := by decide +kernel
theorem dX7_drawnRows_50 : decode cX7_drawnRows 50 = .ok (.iaload, 1) := by decide +kernel
theorem dX7_drawnRows_51 : decode cX7_drawnRows 51 = .ok (.invokestatic 35, 3) := by decide +kernel
theorem dX7_drawnRows_54 : decode cX7_drawnRows 54 = .ok (.lstore_n 2, 1) := by decide +kernel
theorem dX7_drawnRows_55 : decode cX7_drawnRows 55 = .ok (.iinc 4 1, 3) := by decide +kernel
theorem dX7_drawnRows_58 : decode cX7_drawnRows 58 = .ok (.goto (-43), 3) := by decide +kernel
theorem dX7_drawnRows_61 : decode cX7_drawnRows 61 = .ok (.lload_n 2, 1) := by decide +kernel
theorem dX7_drawnRows_62 : decode cX7_drawnRows 62 = .ok (.lreturn, 1) := by decide +kernel
theorem dX7_untornRows_0 : decode cX7_untornRows 0 = .ok (.lconst 0, 1) := by decide +kernel
theorem dX7_untornRows_1 : decode cX7_untornRows 1 = .ok (.lstore_n 2, 1) := by decide +kernel
theorem dX7_untornRows_2 : decode cX7_untornRows 2 = .ok (.aload_n 0, 1) := by decide +kernel
theorem dX7_untornRows_3 : decode cX7_untornRows 3 = .ok (.iload_n 1, 1) := by decide +kernel
theorem dX7_untornRows_4 : decode cX7_untornRows 4 = .ok (.bipush 16, 2) := by decide +kernel
theorem dX7_untornRows_6 : decode cX7_untornRows 6 = .ok (.invokevirtual 26, 3) := by decide +kernel
theorem dX7_untornRows_9 : decode cX7_untornRows 9 = .ok (.ifCond .eq 45, 3) := by decide +kernel
theorem dX7_untornRows_12 : decode cX7_untornRows 12 = .ok (.iconst 0, 1) := by decide +kernel
theorem dX7_untornRows_13 : decode cX7_untornRows 13 = .ok (.istore 4, 2) := by decide +kernel
theorem dX7_untornRows_15 : decode cX7_untornRows 15 = .ok (.iload 4, 2) := by decide +kernel
theorem dX7_untornRows_17 : decode cX7_untornRows 17 = .ok (.bipush 16, 2) := by decide +kernel
theorem dX7_untornRows_19 : decode cX7_untornRows 19 = .ok (.if_icmp .ge 35, 3) := by decide +kernel
theorem dX7_untornRows_22 : decode cX7_untornRows 22 = .ok (.aload_n 0, 1) := by decide +kernel
theorem dX7_untornRows_23 : decode cX7_untornRows 23 = .ok (.getfield 11, 3) := by decide +kernel
theorem dX7_untornRows_26 : decode cX7_untornRows 26 = .ok (.iload_n 1, 1) := by decide +kernel
theorem dX7_untornRows_27 : decode cX7_untornRows 27 = .ok (.iload 4, 2) := by decide +kernel
theorem dX7_untornRows_29 : decode cX7_untornRows 29 = .ok (.iadd, 1) := by decide +kernel
theorem dX7_untornRows_30 : decode cX7_untornRows 30 = .ok (.iaload, 1) := by decide +kernel
theorem dX7_untornRows_31 : decode cX7_untornRows 31 = .ok (.iconst (-1), 1) := by decide +kernel
theorem dX7_untornRows_32 : decode cX7_untornRows 32 = .ok (.if_icmp .ne 7, 3) := by decide +kernel
theorem dX7_untornRows_35 : decode cX7_untornRows 35 = .ok (.lload_n 2, 1) := by decide +kernel
theorem dX7_untornRows_36 : decode cX7_untornRows 36 = .ok (.goto 11, 3) := by decide +kernel
theorem dX7_untornRows_39 : decode cX7_untornRows 39 = .ok (.lload_n 2, 1) := by decide +kernel
theorem dX7_untornRows_40 : decode cX7_untornRows 40 = .ok (.iload 4, 2) := by decide +kernel
theorem dX7_untornRows_42 : decode cX7_untornRows 42 = .ok (.bipush 15, 2) := by decide +kernel
theorem dX7_untornRows_44 : decode cX7_untornRows 44 = .ok (.invokestatic 35, 3) := by decide +kernel
theorem dX7_untornRows_47 : decode cX7_untornRows 47 = .ok (.lstore_n 2, 1) := by decide +kernel
theorem dX7_untornRows_48 : decode cX7_untornRows 48 = .ok (.iinc 4 1, 3) := by decide +kernel
theorem dX7_untornRows_51 : decode cX7_untornRows 51 = .ok (.goto (-36), 3) := by decide +kernel
theorem dX7_untornRows_54 : decode cX7_untornRows 54 = .ok (.lload_n 2, 1) := by decide +kernel
theorem dX7_untornRows_55 : decode cX7_untornRows 55 = .ok (.lreturn, 1) := by decide +kernel
theorem dX8_init_0 : decode cX8_init 0 = .ok (.aload_n 0, 1) := by decide +kernel
theorem dX8_init_1 : decode cX8_init 1 = .ok (.invokespecial 1, 3) := by decide +kernel
theorem dX8_init_4 : decode cX8_init 4 = .ok (.aload_n 0, 1) := by decide +kernel
theorem dX8_init_5 : decode cX8_init 5 = .ok (.sipush 400, 3) := by decide +kernel
theorem dX8_init_8 : decode cX8_init 8 = .ok (.newarray .int, 2) := by decide +kernel
theorem dX8_init_10 : decode cX8_init 10 = .ok (.putfield 9, 3) := by decide +kernel
theorem dX8_init_13 : decode cX8_init 13 = .ok (.aload_n 0, 1) := by decide +kernel
theorem dX8_init_14 : decode cX8_init 14 = .ok (.iconst 0, 1) := by decide +kernel
theorem dX8_init_15 : decode cX8_init 15 = .ok (.putfield 13, 3) := by decide +kernel
theorem dX8_init_18 : decode cX8_init 18 = .ok (.return_, 1) := by decide +kernel
theorem dX8_hasRoom_0 : decode cX8_hasRoom 0 = .ok (.iload_n 1, 1) := by decide +kernel
theorem dX8_hasRoom_1 : decode cX8_hasRoom 1 = .ok (.sipush 400, 3) := by decide +kernel
theorem dX8_hasRoom_4 : decode cX8_hasRoom 4 = .ok (.aload_n 0, 1) := by decide +kernel
theorem dX8_hasRoom_5 : decode cX8_hasRoom 5 = .ok (.getfield 13, 3) := by decide +kernel
theorem dX8_hasRoom_8 : decode cX8_hasRoom 8 = .ok (.isub, 1) := by decide +kernel
theorem dX8_hasRoom_9 : decode cX8_hasRoom 9 = .ok (.if_icmp .gt 7, 3) := by decide +kernel
theorem dX8_hasRoom_12 : decode cX8_hasRoom 12 = .ok (.iconst 1, 1) := by decide +kernel
theorem dX8_hasRoom_13 : decode cX8_hasRoom 13 = .ok (.goto 4, 3) := by decide +kernel
theorem dX8_hasRoom_16 : decode cX8_hasRoom 16 = .ok (.iconst 0, 1) := by decide +kernel
theorem dX8_hasRoom_17 : decode cX8_hasRoom 17 = .ok (.ireturn, 1) := by decide +kernel
theorem dX8_append_0 : decode cX8_append 0 = .ok (.iload_n 3, 1) := by decide +kernel
theorem dX8_append_1 : decode cX8_append 1 = .ok (.iconst 1, 1) := by decide +kernel
theorem dX8_append_2 : decode cX8_append 2 = .ok (.isub, 1) := by decide +kernel
theorem dX8_append_3 : decode cX8_append 3 = .ok (.istore 4, 2) := by decide +kernel
theorem dX8_append_5 : decode cX8_append 5 = .ok (.iload 4, 2) := by decide +kernel
theorem dX8_append_7 : decode cX8_append 7 = .ok (.ifCond .lt 50, 3) := by decide +kernel
theorem dX8_append_10 : decode cX8_append 10 = .ok (.aload_n 0, 1) := by decide +kernel
theorem dX8_append_11 : decode cX8_append 11 = .ok (.getfield 13, 3) := by decide +kernel
theorem dX8_append_14 : decode cX8_append 14 = .ok (.sipush 400, 3) := by decide +kernel
theorem dX8_append_17 : decode cX8_append 17 = .ok (.if_icmp .ge 40, 3) := by decide +kernel
theorem dX8_append_20 : decode cX8_append 20 = .ok (.aload_n 0, 1) := by decide +kernel
theorem dX8_append_21 : decode cX8_append 21 = .ok (.getfield 9, 3) := by decide +kernel
theorem dX8_append_24 : decode cX8_append 24 = .ok (.aload_n 0, 1) := by decide +kernel
theorem dX8_append_25 : decode cX8_append 25 = .ok (.getfield 13, 3) := by decide +kernel
theorem dX8_append_28 : decode cX8_append 28 = .ok (.lload_n 1, 1) := by decide +kernel
theorem dX8_append_29 : decode cX8_append 29 = .ok (.bipush 8, 2) := by decide +kernel
theorem dX8_append_31 : decode cX8_append 31 = .ok (.iload 4, 2) := by decide +kernel
theorem dX8_append_33 : decode cX8_append 33 = .ok (.imul, 1) := by decide +kernel
theorem dX8_append_34 : decode cX8_append 34 = .ok (.lushr, 1) := by decide +kernel
theorem dX8_append_35 : decode cX8_append 35 = .ok (.l2i, 1) := by decide +kernel
theorem dX8_append_36 : decode cX8_append 36 = .ok (.sipush 255, 3) := by decide +kernel
theorem dX8_append_39 : decode cX8_append 39 = .ok (.iand, 1) := by decide +kernel
theorem dX8_append_40 : decode cX8_append 40 = .ok (.iastore, 1) := by decide +kernel
theorem dX8_append_41 : decode cX8_append 41 = .ok (.aload_n 0, 1) := by decide +kernel
theorem dX8_append_42 : decode cX8_append 42 = .ok (.dup, 1) := by decide +kernel
theorem dX8_append_43 : decode cX8_append 43 = .ok (.getfield 13, 3) := by decide +kernel
theorem dX8_append_46 : decode cX8_append 46 = .ok (.iconst 1, 1) := by decide +kernel
theorem dX8_append_47 : decode cX8_append 47 = .ok (.iadd, 1) := by decide +kernel
theorem dX8_append_48 : decode cX8_append 48 = .ok (.putfield 13, 3) := by decide +kernel
theorem dX8_append_51 : decode cX8_append 51 = .ok (.iinc 4 (-1), 3) := by decide +kernel
theorem dX8_append_54 : decode cX8_append 54 = .ok (.goto (-49), 3) := by decide +kernel
theorem dX8_append_57 : decode cX8_append 57 = .ok (.return_, 1) := by decide +kernel
theorem dX8_byteAt_0 : decode cX8_byteAt 0 = .ok (.iload_n 1, 1) := by decide +kernel
theorem dX8_byteAt_1 : decode cX8_byteAt 1 = .ok (.ifCond .lt 20, 3) := by decide +kernel
theorem dX8_byteAt_4 : decode cX8_byteAt 4 = .ok (.iload_n 1, 1) := by decide +kernel
theorem dX8_byteAt_5 : decode cX8_byteAt 5 = .ok (.aload_n 0, 1) := by decide +kernel
theorem dX8_byteAt_6 : decode cX8_byteAt 6 = .ok (.getfield 13, 3) := by decide +kernel
theorem dX8_byteAt_9 : decode cX8_byteAt 9 = .ok (.if_icmp .ge 12, 3) := by decide +kernel
theorem dX8_byteAt_12 : decode cX8_byteAt 12 = .ok (.aload_n 0, 1) := by decide +kernel
theorem dX8_byteAt_13 : decode cX8_byteAt 13 = .ok (.getfield 9, 3) := by decide +kernel
theorem dX8_byteAt_16 : decode cX8_byteAt 16 = .ok (.iload_n 1, 1) := by decide +kernel
theorem dX8_byteAt_17 : decode cX8_byteAt 17 = .ok (.iaload, 1) := by decide +kernel
theorem dX8_byteAt_18 : decode cX8_byteAt 18 = .ok (.goto 4, 3) := by decide +kernel
theorem dX8_byteAt_21 : decode cX8_byteAt 21 = .ok (.iconst 0, 1) := by decide +kernel
theorem dX8_byteAt_22 : decode cX8_byteAt 22 = .ok (.ireturn, 1) := by decide +kernel
theorem dX9_init_0 : decode cX9_init 0 = .ok (.aload_n 0, 1) := by decide +kernel
theorem dX9_init_1 : decode cX9_init 1 = .ok (.invokespecial 3, 3) := by decide +kernel
theorem dX9_init_4 : decode cX9_init 4 = .ok (.aload_n 0, 1) := by decide +kernel
theorem dX9_init_5 : decode cX9_init 5 = .ok (.sipush 401, 3) := by decide +kernel
theorem dX9_init_8 : decode cX9_init 8 = .ok (.newarray .int, 2) := by decide +kernel
theorem dX9_init_10 : decode cX9_init 10 = .ok (.putfield 11, 3) := by decide +kernel
theorem dX9_init_13 : decode cX9_init 13 = .ok (.aload_n 0, 1) := by decide +kernel
theorem dX9_init_14 : decode cX9_init 14 = .ok (.sipush 401, 3) := by decide +kernel
theorem dX9_init_17 : decode cX9_init 17 = .ok (.newarray .int, 2) := by decide +kernel
theorem dX9_init_19 : decode cX9_init 19 = .ok (.putfield 15, 3) := by decide +kernel
theorem dX9_init_22 : decode cX9_init 22 = .ok (.aload_n 0, 1) := by decide +kernel
theorem dX9_init_23 : decode cX9_init 23 = .ok (.sipush 401, 3) := by decide +kernel
theorem dX9_init_26 : decode cX9_init 26 = .ok (.newarray .int, 2) := by decide +kernel
theorem dX9_init_28 : decode cX9_init 28 = .ok (.putfield 18, 3) := by decide +kernel
theorem dX9_init_31 : decode cX9_init 31 = .ok (.aload_n 0, 1) := by decide +kernel
theorem dX9_init_32 : decode cX9_init 32 = .ok (.sipush 401, 3) := by decide +kernel
theorem dX9_init_35 : decode cX9_init 35 = .ok (.newarray .int, 2) := by decide +kernel
theorem dX9_init_37 : decode cX9_init 37 = .ok (.putfield 21, 3) := by decide +kernel
theorem dX9_init_40 : decode cX9_init 40 = .ok (.aload_n 0, 1) := by decide +kernel
theorem dX9_init_41 : decode cX9_init 41 = .ok (.sipush 401, 3) := by decide +kernel
theorem dX9_init_44 : decode cX9_init 44 = .ok (.newarray .int, 2) := by decide +kernel
theorem dX9_init_46 : decode cX9_init 46 = .ok (.putfield 24, 3) := by decide +kernel
theorem dX9_init_49 : decode cX9_init 49 = .ok (.aload_n 0, 1) := by decide +kernel
theorem dX9_init_50 : decode cX9_init 50 = .ok (.iconst 0, 1) := by decide +kernel
theorem dX9_init_51 : decode cX9_init 51 = .ok (.putfield 27, 3) := by decide +kernel
theorem dX9_init_54 : decode cX9_init 54 = .ok (.aload_n 0, 1) := by decide +kernel
theorem dX9_init_55 : decode cX9_init 55 = .ok (.iconst 0, 1) := by decide +kernel
theorem dX9_init_56 : decode cX9_init 56 = .ok (.putfield 31, 3) := by decide +kernel
theorem dX9_init_59 : decode cX9_init 59 = .ok (.return_, 1) := by decide +kernel
theorem dX9_cut_0 : decode cX9_cut 0 = .ok (.aload_n 0, 1) := by decide +kernel
theorem dX9_cut_1 : decode cX9_cut 1 = .ok (.iconst 0, 1) := by decide +kernel
theorem dX9_cut_2 : decode cX9_cut 2 = .ok (.putfield 27, 3) := by decide +kernel
theorem dX9_cut_5 : decode cX9_cut 5 = .ok (.aload_n 0, 1) := by decide +kernel
theorem dX9_cut_6 : decode cX9_cut 6 = .ok (.aload_n 1, 1) := by decide +kernel
theorem dX9_cut_7 : decode cX9_cut 7 = .ok (.getfield 34, 3) := by decide +kernel
theorem dX9_cut_10 : decode cX9_cut 10 = .ok (.putfield 31, 3) := by decide +kernel
theorem dX9_cut_13 : decode cX9_cut 13 = .ok (.iconst 0, 1) := by decide +kernel
theorem dX9_cut_14 : decode cX9_cut 14 = .ok (.istore_n 2, 1) := by decide +kernel
theorem dX9_cut_15 : decode cX9_cut 15 = .ok (.iconst 0, 1) := by decide +kernel
theorem dX9_cut_16 : decode cX9_cut 16 = .ok (.istore_n 3, 1) := by decide +kernel
theorem dX9_cut_17 : decode cX9_cut 17 = .ok (.iload_n 3, 1) := by decide +kernel
theorem dX9_cut_18 : decode cX9_cut 18 = .ok (.aload_n 0, 1) := by decide +kernel
theorem dX9_cut_19 : decode cX9_cut 19 = .ok (.getfield 31, 3) := by decide +kernel
theorem dX9_cut_22 : decode cX9_cut 22 = .ok (.if_icmp .ge 57, 3) := by decide +kernel
theorem dX9_cut_25 : decode cX9_cut 25 = .ok (.aload_n 1, 1) := by decide +kernel
theorem dX9_cut_26 : decode cX9_cut 26 = .ok (.iload_n 3, 1) := by decide +kernel
theorem dX9_cut_27 : decode cX9_cut 27 = .ok (.invokevirtual 37, 3) := by decide +kernel
theorem dX9_cut_30 : decode cX9_cut 30 = .ok (.invokestatic 41, 3) := by decide +kernel
theorem dX9_cut_33 : decode cX9_cut 33 = .ok (.istore 4, 2) := by decide +kernel
theorem dX9_cut_35 : decode cX9_cut 35 = .ok (.iload 4, 2) := by decide +kernel
theorem dX9_cut_37 : decode cX9_cut 37 = .ok (.ifCond .eq 33, 3) := by decide +kernel
theorem dX9_cut_40 : decode cX9_cut 40 = .ok (.aload_n 0, 1) := by decide +kernel
theorem dX9_cut_41 : decode cX9_cut 41 = .ok (.iload_n 3, 1) := by decide +kernel
theorem dX9_cut_42 : decode cX9_cut 42 = .ok (.iload 4, 2) := by decide +kernel
theorem dX9_cut_44 : decode cX9_cut 44 = .ok (.iload 4, 2) := by decide +kernel
theorem dX9_cut_46 : decode cX9_cut 46 = .ok (.iload_n 2, 1) := by decide +kernel
theorem dX9_cut_47 : decode cX9_cut 47 = .ok (.if_icmp .ne 19, 3) := by decide +kernel
theorem dX9_cut_50 : decode cX9_cut 50 = .ok (.iload 4, 2) := by decide +kernel
theorem dX9_cut_52 : decode cX9_cut 52 = .ok (.iconst 1, 1) := by decide +kernel
theorem dX9_cut_53 : decode cX9_cut 53 = .ok (.if_icmp .eq 9, 3) := by decide +kernel
theorem dX9_cut_56 : decode cX9_cut 56 = .ok (.iload 4, 2) := by decide +kernel
theorem dX9_cut_58 : decode cX9_cut 58 = .ok (.iconst 2, 1) := by decide +kernel
theorem dX9_cut_59 : decode cX9_cut 59 = .ok (.if_icmp .ne 7, 3) := by decide +kernel
theorem dX9_cut_62 : decode cX9_cut 62 = .ok (.iconst 1, 1) := by decide +kernel
theorem dX9_cut_63 : decode cX9_cut 63 = .ok (.goto 4, 3) := by decide +kernel
theorem dX9_cut_66 : decode cX9_cut 66 = .ok (.iconst 0, 1) := by decide +kernel
theorem dX9_cut_67 : decode cX9_cut 67 = .ok (.invokevirtual 44, 3) := by decide +kernel
theorem dX9_cut_70 : decode cX9_cut 70 = .ok (.iload 4, 2) := by decide +kernel
theorem dX9_cut_72 : decode cX9_cut 72 = .ok (.istore_n 2, 1) := by decide +kernel
theorem dX9_cut_73 : decode cX9_cut 73 = .ok (.iinc 3 1, 3) := by decide +kernel
theorem dX9_cut_76 : decode cX9_cut 76 = .ok (.goto (-59), 3) := by decide +kernel
theorem dX9_cut_79 : decode cX9_cut 79 = .ok (.iconst 0, 1) := by decide +kernel
theorem dX9_cut_80 : decode cX9_cut 80 = .ok (.istore_n 3, 1) := by decide +kernel
theorem dX9_cut_81 : decode cX9_cut 81 = .ok (.iload_n 3, 1) := by decide +kernel
theorem dX9_cut_82 : decode cX9_cut 82 = .ok (.aload_n 0, 1) := by decide +kernel
theorem dX9_cut_83 : decode cX9_cut 83 = .ok (.getfield 27, 3) := by decide +kernel
theorem dX9_cut_86 : decode cX9_cut 86 = .ok (.if_icmp .ge 15, 3) := by decide +kernel
theorem dX9_cut_89 : decode cX9_cut 89 = .ok (.aload_n 0, 1) := by decide +kernel
theorem dX9_cut_90 : decode cX9_cut 90 = .ok (.iload_n 3, 1) := by decide +kernel
theorem dX9_cut_91 : decode cX9_cut 91 = .ok (.aload_n 1, 1) := by decide +kernel
theorem dX9_cut_92 : decode cX9_cut 92 = .ok (.invokevirtual 48, 3) := by decide +kernel
theorem dX9_cut_95 : decode cX9_cut 95 = .ok (.iinc 3 1, 3) := by decide +kernel
theorem dX9_cut_98 : decode cX9_cut 98 = .ok (.goto (-17), 3) := by decide +kernel
theorem dX9_cut_101 : decode cX9_cut 101 = .ok (.return_, 1) := by decide +kernel
theorem dX9_place_0 : decode cX9_place 0 = .ok (.iload_n 3, 1) := by decide +kernel
theorem dX9_place_1 : decode cX9_place 1 = .ok (.ifCond .eq 28, 3) := by decide +kernel
theorem dX9_place_4 : decode cX9_place 4 = .ok (.aload_n 0, 1) := by decide +kernel
theorem dX9_place_5 : decode cX9_place 5 = .ok (.getfield 27, 3) := by decide +kernel
theorem dX9_place_8 : decode cX9_place 8 = .ok (.ifCond .le 21, 3) := by decide +kernel
theorem dX9_place_11 : decode cX9_place 11 = .ok (.aload_n 0, 1) := by decide +kernel
theorem dX9_place_12 : decode cX9_place 12 = .ok (.getfield 15, 3) := by decide +kernel
theorem dX9_place_15 : decode cX9_place 15 = .ok (.aload_n 0, 1) := by decide +kernel
theorem dX9_place_16 : decode cX9_place 16 = .ok (.getfield 27, 3) := by decide +kernel
theorem dX9_place_19 : decode cX9_place 19 = .ok (.iconst 1, 1) := by decide +kernel
theorem dX9_place_20 : decode cX9_place 20 = .ok (.isub, 1) := by decide +kernel
theorem dX9_place_21 : decode cX9_place 21 = .ok (.dup2, 1) := by decide +kernel
theorem dX9_place_22 : decode cX9_place 22 = .ok (.iaload, 1) := by decide +kernel
theorem dX9_place_23 : decode cX9_place 23 = .ok (.iconst 1, 1) := by decide +kernel
theorem dX9_place_24 : decode cX9_place 24 = .ok (.iadd, 1) := by decide +kernel
theorem dX9_place_25 : decode cX9_place 25 = .ok (.iastore, 1) := by decide +kernel
theorem dX9_place_26 : decode cX9_place 26 = .ok (.goto 53, 3) := by decide +kernel
theorem dX9_place_29 : decode cX9_place 29 = .ok (.aload_n 0, 1) := by decide +kernel
theorem dX9_place_30 : decode cX9_place 30 = .ok (.getfield 27, 3) := by decide +kernel
theorem dX9_place_33 : decode cX9_place 33 = .ok (.sipush 401, 3) := by decide +kernel
theorem dX9_place_36 : decode cX9_place 36 = .ok (.if_icmp .ge 43, 3) := by decide +kernel
theorem dX9_place_39 : decode cX9_place 39 = .ok (.aload_n 0, 1) := by decide +kernel
theorem dX9_place_40 : decode cX9_place 40 = .ok (.getfield 11, 3) := by decide +kernel
theorem dX9_place_43 : decode cX9_place 43 = .ok (.aload_n 0, 1) := by decide +kernel
theorem dX9_place_44 : decode cX9_place 44 = .ok (.getfield 27, 3) := by decide +kernel
theorem dX9_place_47 : decode cX9_place 47 = .ok (.iload_n 1, 1) := by decide +kernel
theorem dX9_place_48 : decode cX9_place 48 = .ok (.iastore, 1) := by decide +kernel
theorem dX9_place_49 : decode cX9_place 49 = .ok (.aload_n 0, 1) := by decide +kernel
theorem dX9_place_50 : decode cX9_place 50 = .ok (.getfield 15, 3) := by decide +kernel
theorem dX9_place_53 : decode cX9_place 53 = .ok (.aload_n 0, 1) := by decide +kernel
theorem dX9_place_54 : decode cX9_place 54 = .ok (.getfield 27, 3) := by decide +kernel
theorem dX9_place_57 : decode cX9_place 57 = .ok (.iconst 1, 1) := by decide +kernel
theorem dX9_place_58 : decode cX9_place 58 = .ok (.iastore, 1) := by decide +kernel
theorem dX9_place_59 : decode cX9_place 59 = .ok (.aload_n 0, 1) := by decide +kernel
theorem dX9_place_60 : decode cX9_place 60 = .ok (.getfield 18, 3) := by decide +kernel
theorem dX9_place_63 : decode cX9_place 63 = .ok (.aload_n 0, 1) := by decide +kernel
theorem dX9_place_64 : decode cX9_place 64 = .ok (.getfield 27, 3) := by decide +kernel
theorem dX9_place_67 : decode cX9_place 67 = .ok (.iload_n 2, 1) := by decide +kernel
theorem dX9_place_68 : decode cX9_place 68 = .ok (.iastore, 1) := by decide +kernel
theorem dX9_place_69 : decode cX9_place 69 = .ok (.aload_n 0, 1) := by decide +kernel
theorem dX9_place_70 : decode cX9_place 70 = .ok (.dup, 1) := by decide +kernel
theorem dX9_place_71 : decode cX9_place 71 = .ok (.getfield 27, 3) := by decide +kernel
theorem dX9_place_74 : decode cX9_place 74 = .ok (.iconst 1, 1) := by decide +kernel
theorem dX9_place_75 : decode cX9_place 75 = .ok (.iadd, 1) := by decide +kernel
theorem dX9_place_76 : decode cX9_place 76 = .ok (.putfield 27, 3) := by decide +kernel
theorem dX9_place_79 : decode cX9_place 79 = .ok (.return_, 1) := by decide +kernel
theorem dX9_name_0 : decode cX9_name 0 = .ok (.aload_n 0, 1) := by decide +kernel
theorem dX9_name_1 : decode cX9_name 1 = .ok (.getfield 24, 3) := by decide +kernel
theorem dX9_name_4 : decode cX9_name 4 = .ok (.iload_n 1, 1) := by decide +kernel
theorem dX9_name_5 : decode cX9_name 5 = .ok (.iconst 0, 1) := by decide +kernel
theorem dX9_name_6 : decode cX9_name 6 = .ok (.iastore, 1) := by decide +kernel
theorem dX9_name_7 : decode cX9_name 7 = .ok (.aload_n 0, 1) := by decide +kernel
theorem dX9_name_8 : decode cX9_name 8 = .ok (.getfield 18, 3) := by decide +kernel
theorem dX9_name_11 : decode cX9_name 11 = .ok (.iload_n 1, 1) := by decide +kernel
theorem dX9_name_12 : decode cX9_name 12 = .ok (.iaload, 1) := by decide +kernel
theorem dX9_name_13 : decode cX9_name 13 = .ok (.iconst 1, 1) := by decide +kernel
theorem dX9_name_14 : decode cX9_name 14 = .ok (.if_icmp .ne 32, 3) := by decide +kernel
theorem dX9_name_17 : decode cX9_name 17 = .ok (.aload_n 0, 1) := by decide +kernel
theorem dX9_name_18 : decode cX9_name 18 = .ok (.getfield 15, 3) := by decide +kernel
theorem dX9_name_21 : decode cX9_name 21 = .ok (.iload_n 1, 1) := by decide +kernel
theorem dX9_name_22 : decode cX9_name 22 = .ok (.iaload, 1) := by decide +kernel
theorem dX9_name_23 : decode cX9_name 23 = .ok (.iconst 4, 1) := by decide +kernel
theorem dX9_name_24 : decode cX9_name 24 = .ok (.if_icmp .gt 22, 3) := by decide +kernel
theorem dX9_name_27 : decode cX9_name 27 = .ok (.aload_n 0, 1) := by decide +kernel
theorem dX9_name_28 : decode cX9_name 28 = .ok (.getfield 21, 3) := by decide +kernel
theorem dX9_name_31 : decode cX9_name 31 = .ok (.iload_n 1, 1) := by decide +kernel
theorem dX9_name_32 : decode cX9_name 32 = .ok (.aload_n 0, 1) := by decide +kernel
theorem dX9_name_33 : decode cX9_name 33 = .ok (.iload_n 1, 1) := by decide +kernel
theorem dX9_name_34 : decode cX9_name 34 = .ok (.aload_n 2, 1) := by decide +kernel
theorem dX9_name_35 : decode cX9_name 35 = .ok (.sipush 256, 3) := by decide +kernel
theorem dX9_name_38 : decode cX9_name 38 = .ok (.iconst 0, 1) := by decide +kernel
theorem dX9_name_39 : decode cX9_name 39 = .ok (.invokevirtual 52, 3) := by decide +kernel
theorem dX9_name_42 : decode cX9_name 42 = .ok (.iastore, 1) := by decide +kernel
theorem dX9_name_43 : decode cX9_name 43 = .ok (.goto 70, 3) := by decide +kernel
theorem dX9_name_46 : decode cX9_name 46 = .ok (.aload_n 0, 1) := by decide +kernel
theorem dX9_name_47 : decode cX9_name 47 = .ok (.getfield 18, 3) := by decide +kernel
theorem dX9_name_50 : decode cX9_name 50 = .ok (.iload_n 1, 1) := by decide +kernel
theorem dX9_name_51 : decode cX9_name 51 = .ok (.iaload, 1) := by decide +kernel
theorem dX9_name_52 : decode cX9_name 52 = .ok (.iconst 2, 1) := by decide +kernel
theorem dX9_name_53 : decode cX9_name 53 = .ok (.if_icmp .ne 39, 3) := by decide +kernel
theorem dX9_name_56 : decode cX9_name 56 = .ok (.aload_n 0, 1) := by decide +kernel
theorem dX9_name_57 : decode cX9_name 57 = .ok (.getfield 15, 3) := by decide +kernel
theorem dX9_name_60 : decode cX9_name 60 = .ok (.iload_n 1, 1) := by decide +kernel
theorem dX9_name_61 : decode cX9_name 61 = .ok (.iaload, 1) := by decide +kernel
theorem dX9_name_62 : decode cX9_name 62 = .ok (.iconst 4, 1) := by decide +kernel
theorem dX9_name_63 : decode cX9_name 63 = .ok (.if_icmp .gt 29, 3) := by decide +kernel
theorem dX9_name_66 : decode cX9_name 66 = .ok (.aload_n 0, 1) := by decide +kernel
theorem dX9_name_67 : decode cX9_name 67 = .ok (.getfield 21, 3) := by decide +kernel
theorem dX9_name_70 : decode cX9_name 70 = .ok (.iload_n 1, 1) := by decide +kernel
theorem dX9_name_71 : decode cX9_name 71 = .ok (.iconst 1, 1) := by decide +kernel
theorem dX9_name_72 : decode cX9_name 72 = .ok (.iastore, 1) := by decide +kernel
theorem dX9_name_73 : decode cX9_name 73 = .ok (.aload_n 0, 1) := by decide +kernel
theorem dX9_name_74 : decode cX9_name 74 = .ok (.getfield 24, 3) := by decide +kernel
theorem dX9_name_77 : decode cX9_name 77 = .ok (.iload_n 1, 1) := by decide +kernel
theorem dX9_name_78 : decode cX9_name 78 = .ok (.aload_n 0, 1) := by decide +kernel
theorem dX9_name_79 : decode cX9_name 79 = .ok (.iload_n 1, 1) := by decide +kernel
theorem dX9_name_80 : decode cX9_name 80 = .ok (.aload_n 2, 1) := by decide +kernel
theorem dX9_name_81 : decode cX9_name 81 = .ok (.bipush 10, 2) := by decide +kernel
theorem dX9_name_83 : decode cX9_name 83 = .ok (.bipush 48, 2) := by decide +kernel
theorem dX9_name_85 : decode cX9_name 85 = .ok (.invokevirtual 52, 3) := by decide +kernel
theorem dX9_name_88 : decode cX9_name 88 = .ok (.iastore, 1) := by decide +kernel
theorem dX9_name_89 : decode cX9_name 89 = .ok (.goto 24, 3) := by decide +kernel
theorem dX9_name_92 : decode cX9_name 92 = .ok (.aload_n 0, 1) := by decide +kernel
theorem dX9_name_93 : decode cX9_name 93 = .ok (.getfield 21, 3) := by decide +kernel
theorem dX9_name_96 : decode cX9_name 96 = .ok (.iload_n 1, 1) := by decide +kernel
theorem dX9_name_97 : decode cX9_name 97 = .ok (.aload_n 0, 1) := by decide +kernel
theorem dX9_name_98 : decode cX9_name 98 = .ok (.getfield 18, 3) := by decide +kernel
theorem dX9_name_101 : decode cX9_name 101 = .ok (.iload_n 1, 1) := by decide +kernel
theorem dX9_name_102 : decode cX9_name 102 = .ok (.iaload, 1) := by decide +kernel
theorem dX9_name_103 : decode cX9_name 103 = .ok (.iconst 3, 1) := by decide +kernel
theorem dX9_name_104 : decode cX9_name 104 = .ok (.if_icmp .ne 7, 3) := by decide +kernel
theorem dX9_name_107 : decode cX9_name 107 = .ok (.iconst 2, 1) := by decide +kernel
theorem dX9_name_108 : decode cX9_name 108 = .ok (.goto 4, 3) := by decide +kernel
theorem dX9_name_111 : decode cX9_name 111 = .ok (.iconst 3, 1) := by decide +kernel
theorem dX9_name_112 : decode cX9_name 112 = .ok (.iastore, 1) := by decide +kernel
theorem dX9_name_113 : decode cX9_name 113 = .ok (.return_, 1) := by decide +kernel
theorem dX9_joined_0 : decode cX9_joined 0 = .ok (.iconst 0, 1) := by decide +kernel
theorem dX9_joined_1 : decode cX9_joined 1 = .ok (.istore 5, 2) := by decide +kernel
theorem dX9_joined_3 : decode cX9_joined 3 = .ok (.iconst 0, 1) := by decide +kernel
theorem dX9_joined_4 : decode cX9_joined 4 = .ok (.istore 6, 2) := by decide +kernel
theorem dX9_joined_6 : decode cX9_joined 6 = .ok (.iload 6, 2) := by decide +kernel
theorem dX9_joined_8 : decode cX9_joined 8 = .ok (.aload_n 0, 1) := by decide +kernel
theorem dX9_joined_9 : decode cX9_joined 9 = .ok (.getfield 15, 3) := by decide +kernel
theorem dX9_joined_12 : decode cX9_joined 12 = .ok (.iload_n 1, 1) := by decide +kernel
theorem dX9_joined_13 : decode cX9_joined 13 = .ok (.iaload, 1) := by decide +kernel
theorem dX9_joined_14 : decode cX9_joined 14 = .ok (.if_icmp .ge 32, 3) := by decide +kernel
theorem dX9_joined_17 : decode cX9_joined 17 = .ok (.iload 5, 2) := by decide +kernel
theorem dX9_joined_19 : decode cX9_joined 19 = .ok (.iload_n 3, 1) := by decide +kernel
theorem dX9_joined_20 : decode cX9_joined 20 = .ok (.imul, 1) := by decide +kernel
theorem dX9_joined_21 : decode cX9_joined 21 = .ok (.aload_n 2, 1) := by decide +kernel
theorem dX9_joined_22 : decode cX9_joined 22 = .ok (.aload_n 0, 1) := by decide +kernel
theorem dX9_joined_23 : decode cX9_joined 23 = .ok (.getfield 11, 3) := by decide +kernel
theorem dX9_joined_26 : decode cX9_joined 26 = .ok (.iload_n 1, 1) := by decide +kernel
theorem dX9_joined_27 : decode cX9_joined 27 = .ok (.iaload, 1) := by decide +kernel
theorem dX9_joined_28 : decode cX9_joined 28 = .ok (.iload 6, 2) := by decide +kernel
theorem dX9_joined_30 : decode cX9_joined 30 = .ok (.iadd, 1) := by decide +kernel
theorem dX9_joined_31 : decode cX9_joined 31 = .ok (.invokevirtual 37, 3) := by decide +kernel
theorem dX9_joined_34 : decode cX9_joined 34 = .ok (.iadd, 1) := by decide +kernel
theorem dX9_joined_35 : decode cX9_joined 35 = .ok (.iload 4, 2) := by decide +kernel
theorem dX9_joined_37 : decode cX9_joined 37 = .ok (.isub, 1) := by decide +kernel
theorem dX9_joined_38 : decode cX9_joined 38 = .ok (.istore 5, 2) := by decide +kernel
theorem dX9_joined_40 : decode cX9_joined 40 = .ok (.iinc 6 1, 3) := by decide +kernel
theorem dX9_joined_43 : decode cX9_joined 43 = .ok (.goto (-37), 3) := by decide +kernel
theorem dX9_joined_46 : decode cX9_joined 46 = .ok (.iload 5, 2) := by decide +kernel
theorem dX9_joined_48 : decode cX9_joined 48 = .ok (.ireturn, 1) := by decide +kernel
theorem dX9_sortOf_0 : decode cX9_sortOf 0 = .ok (.iload_n 0, 1) := by decide +kernel
theorem dX9_sortOf_1 : decode cX9_sortOf 1 = .ok (.bipush 32, 2) := by decide +kernel
theorem dX9_sortOf_3 : decode cX9_sortOf 3 = .ok (.if_icmp .eq 9, 3) := by decide +kernel
theorem dX9_sortOf_6 : decode cX9_sortOf 6 = .ok (.iload_n 0, 1) := by decide +kernel
theorem dX9_sortOf_7 : decode cX9_sortOf 7 = .ok (.bipush 10, 2) := by decide +kernel
theorem dX9_sortOf_9 : decode cX9_sortOf 9 = .ok (.if_icmp .ne 5, 3) := by decide +kernel
theorem dX9_sortOf_12 : decode cX9_sortOf 12 = .ok (.iconst 0, 1) := by decide +kernel
theorem dX9_sortOf_13 : decode cX9_sortOf 13 = .ok (.ireturn, 1) := by decide +kernel
theorem dX9_sortOf_14 : decode cX9_sortOf 14 = .ok (.iload_n 0, 1) := by decide +kernel
theorem dX9_sortOf_15 : decode cX9_sortOf 15 = .ok (.bipush 97, 2) := by decide +kernel
theorem dX9_sortOf_17 : decode cX9_sortOf 17 = .ok (.if_icmp .lt 11, 3) := by decide +kernel
theorem dX9_sortOf_20 : decode cX9_sortOf 20 = .ok (.iload_n 0, 1) := by decide +kernel
theorem dX9_sortOf_21 : decode cX9_sortOf 21 = .ok (.bipush 122, 2) := by decide +kernel
theorem dX9_sortOf_23 : decode cX9_sortOf 23 = .ok (.if_icmp .gt 5, 3) := by decide +kernel
theorem dX9_sortOf_26 : decode cX9_sortOf 26 = .ok (.iconst 1, 1) := by decide +kernel
theorem dX9_sortOf_27 : decode cX9_sortOf 27 = .ok (.ireturn, 1) := by decide +kernel
theorem dX9_sortOf_28 : decode cX9_sortOf 28 = .ok (.iload_n 0, 1) := by decide +kernel
theorem dX9_sortOf_29 : decode cX9_sortOf 29 = .ok (.bipush 48, 2) := by decide +kernel
theorem dX9_sortOf_31 : decode cX9_sortOf 31 = .ok (.if_icmp .lt 11, 3) := by decide +kernel
theorem dX9_sortOf_34 : decode cX9_sortOf 34 = .ok (.iload_n 0, 1) := by decide +kernel
theorem dX9_sortOf_35 : decode cX9_sortOf 35 = .ok (.bipush 57, 2) := by decide +kernel
theorem dX9_sortOf_37 : decode cX9_sortOf 37 = .ok (.if_icmp .gt 5, 3) := by decide +kernel
theorem dX9_sortOf_40 : decode cX9_sortOf 40 = .ok (.iconst 2, 1) := by decide +kernel
theorem dX9_sortOf_41 : decode cX9_sortOf 41 = .ok (.ireturn, 1) := by decide +kernel
theorem dX9_sortOf_42 : decode cX9_sortOf 42 = .ok (.iload_n 0, 1) := by decide +kernel
theorem dX9_sortOf_43 : decode cX9_sortOf 43 = .ok (.bipush 59, 2) := by decide +kernel
theorem dX9_sortOf_45 : decode cX9_sortOf 45 = .ok (.if_icmp .ne 7, 3) := by decide +kernel
theorem dX9_sortOf_48 : decode cX9_sortOf 48 = .ok (.iconst 3, 1) := by decide +kernel
theorem dX9_sortOf_49 : decode cX9_sortOf 49 = .ok (.goto 4, 3) := by decide +kernel
theorem dX9_sortOf_52 : decode cX9_sortOf 52 = .ok (.iconst 4, 1) := by decide +kernel
theorem dX9_sortOf_53 : decode cX9_sortOf 53 = .ok (.ireturn, 1) := by decide +kernel
theorem dX9_kindOf_0 : decode cX9_kindOf 0 = .ok (.iload_n 1, 1) := by decide +kernel
theorem dX9_kindOf_1 : decode cX9_kindOf 1 = .ok (.ifCond .lt 20, 3) := by decide +kernel
theorem dX9_kindOf_4 : decode cX9_kindOf 4 = .ok (.iload_n 1, 1) := by decide +kernel
theorem dX9_kindOf_5 : decode cX9_kindOf 5 = .ok (.aload_n 0, 1) := by decide +kernel
theorem dX9_kindOf_6 : decode cX9_kindOf 6 = .ok (.getfield 27, 3) := by decide +kernel
theorem dX9_kindOf_9 : decode cX9_kindOf 9 = .ok (.if_icmp .ge 12, 3) := by decide +kernel
theorem dX9_kindOf_12 : decode cX9_kindOf 12 = .ok (.aload_n 0, 1) := by decide +kernel
theorem dX9_kindOf_13 : decode cX9_kindOf 13 = .ok (.getfield 21, 3) := by decide +kernel
theorem dX9_kindOf_16 : decode cX9_kindOf 16 = .ok (.iload_n 1, 1) := by decide +kernel
theorem dX9_kindOf_17 : decode cX9_kindOf 17 = .ok (.iaload, 1) := by decide +kernel
theorem dX9_kindOf_18 : decode cX9_kindOf 18 = .ok (.goto 4, 3) := by decide +kernel
theorem dX9_kindOf_21 : decode cX9_kindOf 21 = .ok (.iconst 0, 1) := by decide +kernel
theorem dX9_kindOf_22 : decode cX9_kindOf 22 = .ok (.ireturn, 1) := by decide +kernel
theorem dX9_valueOf_0 : decode cX9_valueOf 0 = .ok (.iload_n 1, 1) := by decide +kernel
theorem dX9_valueOf_1 : decode cX9_valueOf 1 = .ok (.ifCond .lt 20, 3) := by decide +kernel
theorem dX9_valueOf_4 : decode cX9_valueOf 4 = .ok (.iload_n 1, 1) := by decide +kernel
theorem dX9_valueOf_5 : decode cX9_valueOf 5 = .ok (.aload_n 0, 1) := by decide +kernel
theorem dX9_valueOf_6 : decode cX9_valueOf 6 = .ok (.getfield 27, 3) := by decide +kernel
theorem dX9_valueOf_9 : decode cX9_valueOf 9 = .ok (.if_icmp .ge 12, 3) := by decide +kernel
theorem dX9_valueOf_12 : decode cX9_valueOf 12 = .ok (.aload_n 0, 1) := by decide +kernel
theorem dX9_valueOf_13 : decode cX9_valueOf 13 = .ok (.getfield 24, 3) := by decide +kernel
theorem dX9_valueOf_16 : decode cX9_valueOf 16 = .ok (.iload_n 1, 1) := by decide +kernel
theorem dX9_valueOf_17 : decode cX9_valueOf 17 = .ok (.iaload, 1) := by decide +kernel
theorem dX9_valueOf_18 : decode cX9_valueOf 18 = .ok (.goto 4, 3) := by decide +kernel
theorem dX9_valueOf_21 : decode cX9_valueOf 21 = .ok (.iconst 0, 1) := by decide +kernel
theorem dX9_valueOf_22 : decode cX9_valueOf 22 = .ok (.ireturn, 1) := by decide +kernel
theorem dX9_startOf_0 : decode cX9_startOf 0 = .ok (.iload_n 1, 1) := by decide +kernel
theorem dX9_startOf_1 : decode cX9_startOf 1 = .ok (.ifCond .lt 20, 3) := by decide +kernel
theorem dX9_startOf_4 : decode cX9_startOf 4 = .ok (.iload_n 1, 1) := by decide +kernel
theorem dX9_startOf_5 : decode cX9_startOf 5 = .ok (.aload_n 0, 1) := by decide +kernel
theorem dX9_startOf_6 : decode cX9_startOf 6 = .ok (.getfield 27, 3) := by decide +kernel
theorem dX9_startOf_9 : decode cX9_startOf 9 = .ok (.if_icmp .ge 12, 3) := by decide +kernel
theorem dX9_startOf_12 : decode cX9_startOf 12 = .ok (.aload_n 0, 1) := by decide +kernel
theorem dX9_startOf_13 : decode cX9_startOf 13 = .ok (.getfield 11, 3) := by decide +kernel
theorem dX9_startOf_16 : decode cX9_startOf 16 = .ok (.iload_n 1, 1) := by decide +kernel
theorem dX9_startOf_17 : decode cX9_startOf 17 = .ok (.iaload, 1) := by decide +kernel
theorem dX9_startOf_18 : decode cX9_startOf 18 = .ok (.goto 7, 3) := by decide +kernel
theorem dX9_startOf_21 : decode cX9_startOf 21 = .ok (.aload_n 0, 1) := by decide +kernel
theorem dX9_startOf_22 : decode cX9_startOf 22 = .ok (.getfield 31, 3) := by decide +kernel
theorem dX9_startOf_25 : decode cX9_startOf 25 = .ok (.ireturn, 1) := by decide +kernel
theorem dX10_init_0 : decode cX10_init 0 = .ok (.aload_n 0, 1) := by decide +kernel
theorem dX10_init_1 : decode cX10_init 1 = .ok (.invokespecial 1, 3) := by decide +kernel
theorem dX10_init_4 : decode cX10_init 4 = .ok (.aload_n 0, 1) := by decide +kernel
theorem dX10_init_5 : decode cX10_init 5 = .ok (.bipush 8, 2) := by decide +kernel
theorem dX10_init_7 : decode cX10_init 7 = .ok (.anewarray 9, 3) := by decide +kernel
theorem dX10_init_10 : decode cX10_init 10 = .ok (.putfield 11, 3) := by decide +kernel
theorem dX10_init_13 : decode cX10_init 13 = .ok (.aload_n 0, 1) := by decide +kernel
theorem dX10_init_14 : decode cX10_init 14 = .ok (.new 15, 3) := by decide +kernel
theorem dX10_init_17 : decode cX10_init 17 = .ok (.dup, 1) := by decide +kernel
theorem dX10_init_18 : decode cX10_init 18 = .ok (.invokespecial 17, 3) := by decide +kernel
theorem dX10_init_21 : decode cX10_init 21 = .ok (.putfield 18, 3) := by decide +kernel
theorem dX10_init_24 : decode cX10_init 24 = .ok (.aload_n 0, 1) := by decide +kernel
theorem dX10_init_25 : decode cX10_init 25 = .ok (.new 22, 3) := by decide +kernel
theorem dX10_init_28 : decode cX10_init 28 = .ok (.dup, 1) := by decide +kernel
theorem dX10_init_29 : decode cX10_init 29 = .ok (.invokespecial 24, 3) := by decide +kernel
theorem dX10_init_32 : decode cX10_init 32 = .ok (.putfield 25, 3) := by decide +kernel
theorem dX10_init_35 : decode cX10_init 35 = .ok (.aload_n 0, 1) := by decide +kernel
theorem dX10_init_36 : decode cX10_init 36 = .ok (.new 29, 3) := by decide +kernel
theorem dX10_init_39 : decode cX10_init 39 = .ok (.dup, 1) := by decide +kernel
theorem dX10_init_40 : decode cX10_init 40 = .ok (.invokespecial 31, 3) := by decide +kernel
theorem dX10_init_43 : decode cX10_init 43 = .ok (.putfield 32, 3) := by decide +kernel
theorem dX10_init_46 : decode cX10_init 46 = .ok (.aload_n 0, 1) := by decide +kernel
theorem dX10_init_47 : decode cX10_init 47 = .ok (.new 36, 3) := by decide +kernel
theorem dX10_init_50 : decode cX10_init 50 = .ok (.dup, 1) := by decide +kernel
theorem dX10_init_51 : decode cX10_init 51 = .ok (.invokespecial 38, 3) := by decide +kernel
theorem dX10_init_54 : decode cX10_init 54 = .ok (.putfield 39, 3) := by decide +kernel
theorem dX10_init_57 : decode cX10_init 57 = .ok (.aload_n 0, 1) := by decide +kernel
theorem dX10_init_58 : decode cX10_init 58 = .ok (.new 43, 3) := by decide +kernel
theorem dX10_init_61 : decode cX10_init 61 = .ok (.dup, 1) := by decide +kernel
theorem dX10_init_62 : decode cX10_init 62 = .ok (.invokespecial 45, 3) := by decide +kernel
theorem dX10_init_65 : decode cX10_init 65 = .ok (.putfield 46, 3) := by decide +kernel
theorem dX10_init_68 : decode cX10_init 68 = .ok (.aload_n 0, 1) := by decide +kernel
theorem dX10_init_69 : decode cX10_init 69 = .ok (.new 50, 3) := by decide +kernel
theorem dX10_init_72 : decode cX10_init 72 = .ok (.dup, 1) := by decide +kernel
theorem dX10_init_73 : decode cX10_init 73 = .ok (.invokespecial 52, 3) := by decide +kernel
theorem dX10_init_76 : decode cX10_init 76 = .ok (.putfield 53, 3) := by decide +kernel
theorem dX10_init_79 : decode cX10_init 79 = .ok (.aload_n 0, 1) := by decide +kernel
theorem dX10_init_80 : decode cX10_init 80 = .ok (.new 50, 3) := by decide +kernel
theorem dX10_init_83 : decode cX10_init 83 = .ok (.dup, 1) := by decide +kernel
theorem dX10_init_84 : decode cX10_init 84 = .ok (.invokespecial 52, 3) := by decide +kernel
theorem dX10_init_87 : decode cX10_init 87 = .ok (.putfield 57, 3) := by decide +kernel
theorem dX10_init_90 : decode cX10_init 90 = .ok (.aload_n 0, 1) := by decide +kernel
theorem dX10_init_91 : decode cX10_init 91 = .ok (.iconst 0, 1) := by decide +kernel
theorem dX10_init_92 : decode cX10_init 92 = .ok (.putfield 60, 3) := by decide +kernel
theorem dX10_init_95 : decode cX10_init 95 = .ok (.aload_n 0, 1) := by decide +kernel
theorem dX10_init_96 : decode cX10_init 96 = .ok (.iconst 0, 1) := by decide +kernel
theorem dX10_init_97 : decode cX10_init 97 = .ok (.invokestatic 64, 3) := by decide +kernel
theorem dX10_init_100 : decode cX10_init 100 = .ok (.putfield 70, 3) := by decide +kernel
theorem dX10_init_103 : decode cX10_init 103 = .ok (.aload_n 0, 1) := by decide +kernel
theorem dX10_init_104 : decode cX10_init 104 = .ok (.iconst 0, 1) := by decide +kernel
theorem dX10_init_105 : decode cX10_init 105 = .ok (.putfield 74, 3) := by decide +kernel
theorem dX10_init_108 : decode cX10_init 108 = .ok (.aload_n 0, 1) := by decide +kernel
theorem dX10_init_109 : decode cX10_init 109 = .ok (.iconst 0, 1) := by decide +kernel
theorem dX10_init_110 : decode cX10_init 110 = .ok (.putfield 77, 3) := by decide +kernel
theorem dX10_init_113 : decode cX10_init 113 = .ok (.iconst 0, 1) := by decide +kernel
theorem dX10_init_114 : decode cX10_init 114 = .ok (.istore_n 1, 1) := by decide +kernel
theorem dX10_init_115 : decode cX10_init 115 = .ok (.iload_n 1, 1) := by decide +kernel
theorem dX10_init_116 : decode cX10_init 116 = .ok (.bipush 8, 2) := by decide +kernel
theorem dX10_init_118 : decode cX10_init 118 = .ok (.if_icmp .ge 22, 3) := by decide +kernel
theorem dX10_init_121 : decode cX10_init 121 = .ok (.aload_n 0, 1) := by decide +kernel
theorem dX10_init_122 : decode cX10_init 122 = .ok (.getfield 11, 3) := by decide +kernel
theorem dX10_init_125 : decode cX10_init 125 = .ok (.iload_n 1, 1) := by decide +kernel
theorem dX10_init_126 : decode cX10_init 126 = .ok (.new 9, 3) := by decide +kernel
theorem dX10_init_129 : decode cX10_init 129 = .ok (.dup, 1) := by decide +kernel
theorem dX10_init_130 : decode cX10_init 130 = .ok (.invokespecial 80, 3) := by decide +kernel
theorem dX10_init_133 : decode cX10_init 133 = .ok (.aastore, 1) := by decide +kernel
theorem dX10_init_134 : decode cX10_init 134 = .ok (.iinc 1 1, 3) := by decide +kernel
theorem dX10_init_137 : decode cX10_init 137 = .ok (.goto (-22), 3) := by decide +kernel
theorem dX10_init_140 : decode cX10_init 140 = .ok (.return_, 1) := by decide +kernel
theorem dX10_sheet_0 : decode cX10_sheet 0 = .ok (.iload_n 1, 1) := by decide +kernel
theorem dX10_sheet_1 : decode cX10_sheet 1 = .ok (.invokestatic 81, 3) := by decide +kernel
theorem dX10_sheet_4 : decode cX10_sheet 4 = .ok (.ifCond .eq 16, 3) := by decide +kernel
theorem dX10_sheet_7 : decode cX10_sheet 7 = .ok (.iload_n 2, 1) := by decide +kernel
theorem dX10_sheet_8 : decode cX10_sheet 8 = .ok (.invokestatic 85, 3) := by decide +kernel
theorem dX10_sheet_11 : decode cX10_sheet 11 = .ok (.ifCond .eq 9, 3) := by decide +kernel
theorem dX10_sheet_14 : decode cX10_sheet 14 = .ok (.iload_n 3, 1) := by decide +kernel
theorem dX10_sheet_15 : decode cX10_sheet 15 = .ok (.bipush 60, 2) := by decide +kernel
theorem dX10_sheet_17 : decode cX10_sheet 17 = .ok (.if_icmp .le 6, 3) := by decide +kernel
theorem dX10_sheet_20 : decode cX10_sheet 20 = .ok (.ldc 88, 2) := by decide +kernel
theorem dX10_sheet_22 : decode cX10_sheet 22 = .ok (.ireturn, 1) := by decide +kernel
theorem dX10_sheet_23 : decode cX10_sheet 23 = .ok (.iload_n 3, 1) := by decide +kernel
theorem dX10_sheet_24 : decode cX10_sheet 24 = .ok (.ifCond .ge 9, 3) := by decide +kernel
theorem dX10_sheet_27 : decode cX10_sheet 27 = .ok (.aload_n 0, 1) := by decide +kernel
theorem dX10_sheet_28 : decode cX10_sheet 28 = .ok (.iconst 4, 1) := by decide +kernel
theorem dX10_sheet_29 : decode cX10_sheet 29 = .ok (.invokevirtual 89, 3) := by decide +kernel
theorem dX10_sheet_32 : decode cX10_sheet 32 = .ok (.ireturn, 1) := by decide +kernel
theorem dX10_sheet_33 : decode cX10_sheet 33 = .ok (.aload_n 0, 1) := by decide +kernel
theorem dX10_sheet_34 : decode cX10_sheet 34 = .ok (.getfield 11, 3) := by decide +kernel
theorem dX10_sheet_37 : decode cX10_sheet 37 = .ok (.iload_n 1, 1) := by decide +kernel
theorem dX10_sheet_38 : decode cX10_sheet 38 = .ok (.aaload, 1) := by decide +kernel
theorem dX10_sheet_39 : decode cX10_sheet 39 = .ok (.iload_n 2, 1) := by decide +kernel
theorem dX10_sheet_40 : decode cX10_sheet 40 = .ok (.iload_n 3, 1) := by decide +kernel
theorem dX10_sheet_41 : decode cX10_sheet 41 = .ok (.invokevirtual 93, 3) := by decide +kernel
theorem dX10_sheet_44 : decode cX10_sheet 44 = .ok (.aload_n 0, 1) := by decide +kernel
theorem dX10_sheet_45 : decode cX10_sheet 45 = .ok (.iload_n 3, 1) := by decide +kernel
theorem dX10_sheet_46 : decode cX10_sheet 46 = .ok (.invokevirtual 97, 3) := by decide +kernel
theorem dX10_sheet_49 : decode cX10_sheet 49 = .ok (.ireturn, 1) := by decide +kernel
theorem dX10_set_0 : decode cX10_set 0 = .ok (.iload_n 1, 1) := by decide +kernel
theorem dX10_set_1 : decode cX10_set 1 = .ok (.invokestatic 81, 3) := by decide +kernel
theorem dX10_set_4 : decode cX10_set 4 = .ok (.ifCond .ne 6, 3) := by decide +kernel
theorem dX10_set_7 : decode cX10_set 7 = .ok (.ldc 88, 2) := by decide +kernel
theorem dX10_set_9 : decode cX10_set 9 = .ok (.ireturn, 1) := by decide +kernel
theorem dX10_set_10 : decode cX10_set 10 = .ok (.aload_n 0, 1) := by decide +kernel
theorem dX10_set_11 : decode cX10_set 11 = .ok (.getfield 11, 3) := by decide +kernel
theorem dX10_set_14 : decode cX10_set 14 = .ok (.iload_n 1, 1) := by decide +kernel
theorem dX10_set_15 : decode cX10_set 15 = .ok (.aaload, 1) := by decide +kernel
theorem dX10_set_16 : decode cX10_set 16 = .ok (.iload_n 2, 1) := by decide +kernel
theorem dX10_set_17 : decode cX10_set 17 = .ok (.iconst 1, 1) := by decide +kernel
theorem dX10_set_18 : decode cX10_set 18 = .ok (.invokevirtual 100, 3) := by decide +kernel
theorem dX10_set_21 : decode cX10_set 21 = .ok (.istore 4, 2) := by decide +kernel
theorem dX10_set_23 : decode cX10_set 23 = .ok (.iload 4, 2) := by decide +kernel
theorem dX10_set_25 : decode cX10_set 25 = .ok (.ifCond .eq 10, 3) := by decide +kernel
theorem dX10_set_28 : decode cX10_set 28 = .ok (.aload_n 0, 1) := by decide +kernel
theorem dX10_set_29 : decode cX10_set 29 = .ok (.iload 4, 2) := by decide +kernel
theorem dX10_set_31 : decode cX10_set 31 = .ok (.invokevirtual 89, 3) := by decide +kernel
theorem dX10_set_34 : decode cX10_set 34 = .ok (.ireturn, 1) := by decide +kernel
theorem dX10_set_35 : decode cX10_set 35 = .ok (.aload_n 0, 1) := by decide +kernel
theorem dX10_set_36 : decode cX10_set 36 = .ok (.aload_n 0, 1) := by decide +kernel
theorem dX10_set_37 : decode cX10_set 37 = .ok (.getfield 11, 3) := by decide +kernel
theorem dX10_set_40 : decode cX10_set 40 = .ok (.iload_n 1, 1) := by decide +kernel
theorem dX10_set_41 : decode cX10_set 41 = .ok (.aaload, 1) := by decide +kernel
theorem dX10_set_42 : decode cX10_set 42 = .ok (.iload_n 2, 1) := by decide +kernel
theorem dX10_set_43 : decode cX10_set 43 = .ok (.iload_n 3, 1) := by decide +kernel
theorem dX10_set_44 : decode cX10_set 44 = .ok (.invokevirtual 104, 3) := by decide +kernel
theorem dX10_set_47 : decode cX10_set 47 = .ok (.invokevirtual 97, 3) := by decide +kernel
theorem dX10_set_50 : decode cX10_set 50 = .ok (.ireturn, 1) := by decide +kernel
theorem dX10_copy_0 : decode cX10_copy 0 = .ok (.iload_n 1, 1) := by decide +kernel
theorem dX10_copy_1 : decode cX10_copy 1 = .ok (.invokestatic 81, 3) := by decide +kernel
theorem dX10_copy_4 : decode cX10_copy 4 = .ok (.ifCond .eq 10, 3) := by decide +kernel
theorem dX10_copy_7 : decode cX10_copy 7 = .ok (.iload_n 3, 1) := by decide +kernel
theorem dX10_copy_8 : decode cX10_copy 8 = .ok (.invokestatic 81, 3) := by decide +kernel
theorem dX10_copy_11 : decode cX10_copy 11 = .ok (.ifCond .ne 6, 3) := by decide +kernel
theorem dX10_copy_14 : decode cX10_copy 14 = .ok (.ldc 88, 2) := by decide +kernel
theorem dX10_copy_16 : decode cX10_copy 16 = .ok (.ireturn, 1) := by decide +kernel
theorem dX10_copy_17 : decode cX10_copy 17 = .ok (.aload_n 0, 1) := by decide +kernel
theorem dX10_copy_18 : decode cX10_copy 18 = .ok (.getfield 11, 3) := by decide +kernel
theorem dX10_copy_21 : decode cX10_copy 21 = .ok (.iload_n 1, 1) := by decide +kernel
theorem dX10_copy_22 : decode cX10_copy 22 = .ok (.aaload, 1) := by decide +kernel
theorem dX10_copy_23 : decode cX10_copy 23 = .ok (.astore 6, 2) := by decide +kernel
theorem dX10_copy_25 : decode cX10_copy 25 = .ok (.aload_n 0, 1) := by decide +kernel
theorem dX10_copy_26 : decode cX10_copy 26 = .ok (.getfield 11, 3) := by decide +kernel
theorem dX10_copy_29 : decode cX10_copy 29 = .ok (.iload_n 3, 1) := by decide +kernel
theorem dX10_copy_30 : decode cX10_copy 30 = .ok (.aaload, 1) := by decide +kernel
theorem dX10_copy_31 : decode cX10_copy 31 = .ok (.astore 7, 2) := by decide +kernel
theorem dX10_copy_33 : decode cX10_copy 33 = .ok (.aload 6, 2) := by decide +kernel
theorem dX10_copy_35 : decode cX10_copy 35 = .ok (.invokevirtual 107, 3) := by decide +kernel
theorem dX10_copy_38 : decode cX10_copy 38 = .ok (.ifCond .ne 11, 3) := by decide +kernel
theorem dX10_copy_41 : decode cX10_copy 41 = .ok (.aload 7, 2) := by decide +kernel
theorem dX10_copy_43 : decode cX10_copy 43 = .ok (.invokevirtual 107, 3) := by decide +kernel
theorem dX10_copy_46 : decode cX10_copy 46 = .ok (.ifCond .eq 9, 3) := by decide +kernel
theorem dX10_copy_49 : decode cX10_copy 49 = .ok (.aload_n 0, 1) := by decide +kernel
theorem dX10_copy_50 : decode cX10_copy 50 = .ok (.iconst 1, 1) := by decide +kernel
theorem dX10_copy_51 : decode cX10_copy 51 = .ok (.invokevirtual 89, 3) := by decide +kernel
theorem dX10_copy_54 : decode cX10_copy 54 = .ok (.ireturn, 1) := by decide +kernel
theorem dX10_copy_55 : decode cX10_copy 55 = .ok (.aload 6, 2) := by decide +kernel
theorem dX10_copy_57 : decode cX10_copy 57 = .ok (.getfield 111, 3) := by decide +kernel
theorem dX10_copy_60 : decode cX10_copy 60 = .ok (.aload 7, 2) := by decide +kernel
theorem dX10_copy_62 : decode cX10_copy 62 = .ok (.getfield 111, 3) := by decide +kernel
theorem dX10_copy_65 : decode cX10_copy 65 = .ok (.if_icmp .eq 9, 3) := by decide +kernel
theorem dX10_copy_68 : decode cX10_copy 68 = .ok (.aload_n 0, 1) := by decide +kernel
theorem dX10_copy_69 : decode cX10_copy 69 = .ok (.iconst 5, 1) := by decide +kernel
theorem dX10_copy_70 : decode cX10_copy 70 = .ok (.invokevirtual 89, 3) := by decide +kernel
theorem dX10_copy_73 : decode cX10_copy 73 = .ok (.ireturn, 1) := by decide +kernel
theorem dX10_copy_74 : decode cX10_copy 74 = .ok (.aload 6, 2) := by decide +kernel
theorem dX10_copy_76 : decode cX10_copy 76 = .ok (.iload_n 2, 1) := by decide +kernel
theorem dX10_copy_77 : decode cX10_copy 77 = .ok (.iload 5, 2) := by decide +kernel
theorem dX10_copy_79 : decode cX10_copy 79 = .ok (.invokevirtual 114, 3) := by decide +kernel
theorem dX10_copy_82 : decode cX10_copy 82 = .ok (.ifCond .eq 15, 3) := by decide +kernel
theorem dX10_copy_85 : decode cX10_copy 85 = .ok (.aload 7, 2) := by decide +kernel
theorem dX10_copy_87 : decode cX10_copy 87 = .ok (.iload 4, 2) := by decide +kernel
theorem dX10_copy_89 : decode cX10_copy 89 = .ok (.iload 5, 2) := by decide +kernel
theorem dX10_copy_91 : decode cX10_copy 91 = .ok (.invokevirtual 114, 3) := by decide +kernel
theorem dX10_copy_94 : decode cX10_copy 94 = .ok (.ifCond .ne 9, 3) := by decide +kernel
theorem dX10_copy_97 : decode cX10_copy 97 = .ok (.aload_n 0, 1) := by decide +kernel
theorem dX10_copy_98 : decode cX10_copy 98 = .ok (.iconst 2, 1) := by decide +kernel
theorem dX10_copy_99 : decode cX10_copy 99 = .ok (.invokevirtual 89, 3) := by decide +kernel
theorem dX10_copy_102 : decode cX10_copy 102 = .ok (.ireturn, 1) := by decide +kernel
theorem dX10_copy_103 : decode cX10_copy 103 = .ok (.aload 6, 2) := by decide +kernel
theorem dX10_copy_105 : decode cX10_copy 105 = .ok (.getfield 118, 3) := by decide +kernel
theorem dX10_copy_108 : decode cX10_copy 108 = .ok (.iload_n 2, 1) := by decide +kernel
theorem dX10_copy_109 : decode cX10_copy 109 = .ok (.aload 7, 2) := by decide +kernel
theorem dX10_copy_111 : decode cX10_copy 111 = .ok (.getfield 118, 3) := by decide +kernel
theorem dX10_copy_114 : decode cX10_copy 114 = .ok (.iload 4, 2) := by decide +kernel
theorem dX10_copy_116 : decode cX10_copy 116 = .ok (.iload 5, 2) := by decide +kernel
theorem dX10_copy_118 : decode cX10_copy 118 = .ok (.invokestatic 122, 3) := by decide +kernel
theorem dX10_copy_121 : decode cX10_copy 121 = .ok (.aload_n 0, 1) := by decide +kernel
theorem dX10_copy_122 : decode cX10_copy 122 = .ok (.iload 5, 2) := by decide +kernel
theorem dX10_copy_124 : decode cX10_copy 124 = .ok (.invokevirtual 97, 3) := by decide +kernel
theorem dX10_copy_127 : decode cX10_copy 127 = .ok (.ireturn, 1) := by decide +kernel
theorem dX10_drop_0 : decode cX10_drop 0 = .ok (.iload_n 1, 1) := by decide +kernel
theorem dX10_drop_1 : decode cX10_drop 1 = .ok (.invokestatic 81, 3) := by decide +kernel
theorem dX10_drop_4 : decode cX10_drop 4 = .ok (.ifCond .ne 6, 3) := by decide +kernel
theorem dX10_drop_7 : decode cX10_drop 7 = .ok (.ldc 88, 2) := by decide +kernel
theorem dX10_drop_9 : decode cX10_drop 9 = .ok (.ireturn, 1) := by decide +kernel
theorem dX10_drop_10 : decode cX10_drop 10 = .ok (.aload_n 0, 1) := by decide +kernel
theorem dX10_drop_11 : decode cX10_drop 11 = .ok (.getfield 11, 3) := by decide +kernel
theorem dX10_drop_14 : decode cX10_drop 14 = .ok (.iload_n 1, 1) := by decide +kernel
theorem dX10_drop_15 : decode cX10_drop 15 = .ok (.aaload, 1) := by decide +kernel
theorem dX10_drop_16 : decode cX10_drop 16 = .ok (.invokevirtual 107, 3) := by decide +kernel
theorem dX10_drop_19 : decode cX10_drop 19 = .ok (.ifCond .eq 9, 3) := by decide +kernel
theorem dX10_drop_22 : decode cX10_drop 22 = .ok (.aload_n 0, 1) := by decide +kernel
theorem dX10_drop_23 : decode cX10_drop 23 = .ok (.iconst 1, 1) := by decide +kernel
theorem dX10_drop_24 : decode cX10_drop 24 = .ok (.invokevirtual 89, 3) := by decide +kernel
theorem dX10_drop_27 : decode cX10_drop 27 = .ok (.ireturn, 1) := by decide +kernel
theorem dX10_drop_28 : decode cX10_drop 28 = .ok (.aload_n 0, 1) := by decide +kernel
theorem dX10_drop_29 : decode cX10_drop 29 = .ok (.getfield 11, 3) := by decide +kernel
theorem dX10_drop_32 : decode cX10_drop 32 = .ok (.iload_n 1, 1) := by decide +kernel
theorem dX10_drop_33 : decode cX10_drop 33 = .ok (.aaload, 1) := by decide +kernel
theorem dX10_drop_34 : decode cX10_drop 34 = .ok (.getfield 128, 3) := by decide +kernel
theorem dX10_drop_37 : decode cX10_drop 37 = .ok (.istore_n 2, 1) := by decide +kernel
theorem dX10_drop_38 : decode cX10_drop 38 = .ok (.aload_n 0, 1) := by decide +kernel
theorem dX10_drop_39 : decode cX10_drop 39 = .ok (.getfield 11, 3) := by decide +kernel
theorem dX10_drop_42 : decode cX10_drop 42 = .ok (.iload_n 1, 1) := by decide +kernel
theorem dX10_drop_43 : decode cX10_drop 43 = .ok (.aaload, 1) := by decide +kernel
theorem dX10_drop_44 : decode cX10_drop 44 = .ok (.invokevirtual 131, 3) := by decide +kernel
theorem dX10_drop_47 : decode cX10_drop 47 = .ok (.aload_n 0, 1) := by decide +kernel
theorem dX10_drop_48 : decode cX10_drop 48 = .ok (.iload_n 2, 1) := by decide +kernel
theorem dX10_drop_49 : decode cX10_drop 49 = .ok (.invokevirtual 97, 3) := by decide +kernel
theorem dX10_drop_52 : decode cX10_drop 52 = .ok (.ireturn, 1) := by decide +kernel
theorem dX10_cast_0 : decode cX10_cast 0 = .ok (.iload_n 1, 1) := by decide +kernel
theorem dX10_cast_1 : decode cX10_cast 1 = .ok (.invokestatic 81, 3) := by decide +kernel
theorem dX10_cast_4 : decode cX10_cast 4 = .ok (.ifCond .ne 6, 3) := by decide +kernel
theorem dX10_cast_7 : decode cX10_cast 7 = .ok (.ldc 88, 2) := by decide +kernel
theorem dX10_cast_9 : decode cX10_cast 9 = .ok (.ireturn, 1) := by decide +kernel
theorem dX10_cast_10 : decode cX10_cast 10 = .ok (.aload_n 0, 1) := by decide +kernel
theorem dX10_cast_11 : decode cX10_cast 11 = .ok (.getfield 11, 3) := by decide +kernel
theorem dX10_cast_14 : decode cX10_cast 14 = .ok (.iload_n 1, 1) := by decide +kernel
theorem dX10_cast_15 : decode cX10_cast 15 = .ok (.aaload, 1) := by decide +kernel
theorem dX10_cast_16 : decode cX10_cast 16 = .ok (.iload_n 2, 1) := by decide +kernel
theorem dX10_cast_17 : decode cX10_cast 17 = .ok (.bipush 16, 2) := by decide +kernel
theorem dX10_cast_19 : decode cX10_cast 19 = .ok (.invokevirtual 100, 3) := by decide +kernel
theorem dX10_cast_22 : decode cX10_cast 22 = .ok (.istore_n 3, 1) := by decide +kernel
theorem dX10_cast_23 : decode cX10_cast 23 = .ok (.iload_n 3, 1) := by decide +kernel
theorem dX10_cast_24 : decode cX10_cast 24 = .ok (.ifCond .eq 9, 3) := by decide +kernel
theorem dX10_cast_27 : decode cX10_cast 27 = .ok (.aload_n 0, 1) := by decide +kernel
theorem dX10_cast_28 : decode cX10_cast 28 = .ok (.iload_n 3, 1) := by decide +kernel
theorem dX10_cast_29 : decode cX10_cast 29 = .ok (.invokevirtual 89, 3) := by decide +kernel
theorem dX10_cast_32 : decode cX10_cast 32 = .ok (.ireturn, 1) := by decide +kernel
theorem dX10_cast_33 : decode cX10_cast 33 = .ok (.aload_n 0, 1) := by decide +kernel
theorem dX10_cast_34 : decode cX10_cast 34 = .ok (.getfield 11, 3) := by decide +kernel
theorem dX10_cast_37 : decode cX10_cast 37 = .ok (.iload_n 1, 1) := by decide +kernel
theorem dX10_cast_38 : decode cX10_cast 38 = .ok (.aaload, 1) := by decide +kernel
theorem dX10_cast_39 : decode cX10_cast 39 = .ok (.iload_n 2, 1) := by decide +kernel
theorem dX10_cast_40 : decode cX10_cast 40 = .ok (.bipush 16, 2) := by decide +kernel
theorem dX10_cast_42 : decode cX10_cast 42 = .ok (.iconst 0, 1) := by decide +kernel
theorem dX10_cast_43 : decode cX10_cast 43 = .ok (.ldc 134, 2) := by decide +kernel
theorem dX10_cast_45 : decode cX10_cast 45 = .ok (.invokevirtual 135, 3) := by decide +kernel
theorem dX10_cast_48 : decode cX10_cast 48 = .ok (.ifCond .ne 6, 3) := by decide +kernel
theorem dX10_cast_51 : decode cX10_cast 51 = .ok (.ldc 88, 2) := by decide +kernel
theorem dX10_cast_53 : decode cX10_cast 53 = .ok (.ireturn, 1) := by decide +kernel
theorem dX10_cast_54 : decode cX10_cast 54 = .ok (.aload_n 0, 1) := by decide +kernel
theorem dX10_cast_55 : decode cX10_cast 55 = .ok (.aload_n 0, 1) := by decide +kernel
theorem dX10_cast_56 : decode cX10_cast 56 = .ok (.getfield 11, 3) := by decide +kernel
theorem dX10_cast_59 : decode cX10_cast 59 = .ok (.iload_n 1, 1) := by decide +kernel
theorem dX10_cast_60 : decode cX10_cast 60 = .ok (.aaload, 1) := by decide +kernel
theorem dX10_cast_61 : decode cX10_cast 61 = .ok (.iload_n 2, 1) := by decide +kernel
theorem dX10_cast_62 : decode cX10_cast 62 = .ok (.invokevirtual 139, 3) := by decide +kernel
theorem dX10_cast_65 : decode cX10_cast 65 = .ok (.invokevirtual 142, 3) := by decide +kernel
theorem dX10_cast_68 : decode cX10_cast 68 = .ok (.aload_n 0, 1) := by decide +kernel
theorem dX10_cast_69 : decode cX10_cast 69 = .ok (.aload_n 0, 1) := by decide +kernel
theorem dX10_cast_70 : decode cX10_cast 70 = .ok (.getfield 60, 3) := by decide +kernel
theorem dX10_cast_73 : decode cX10_cast 73 = .ok (.invokevirtual 97, 3) := by decide +kernel
theorem dX10_cast_76 : decode cX10_cast 76 = .ok (.ireturn, 1) := by decide +kernel
theorem dX10_chart_0 : decode cX10_chart 0 = .ok (.iload_n 1, 1) := by decide +kernel
theorem dX10_chart_1 : decode cX10_chart 1 = .ok (.ifCond .lt 9, 3) := by decide +kernel
theorem dX10_chart_4 : decode cX10_chart 4 = .ok (.iload_n 1, 1) := by decide +kernel
theorem dX10_chart_5 : decode cX10_chart 5 = .ok (.ldc 146, 2) := by decide +kernel
theorem dX10_chart_7 : decode cX10_chart 7 = .ok (.if_icmp .lt 6, 3) := by decide +kernel
theorem dX10_chart_10 : decode cX10_chart 10 = .ok (.ldc 88, 2) := by decide +kernel
theorem dX10_chart_12 : decode cX10_chart 12 = .ok (.ireturn, 1) := by decide +kernel
theorem dX10_chart_13 : decode cX10_chart 13 = .ok (.aload_n 0, 1) := by decide +kernel
theorem dX10_chart_14 : decode cX10_chart 14 = .ok (.getfield 60, 3) := by decide +kernel
theorem dX10_chart_17 : decode cX10_chart 17 = .ok (.istore_n 2, 1) := by decide +kernel
theorem dX10_chart_18 : decode cX10_chart 18 = .ok (.aload_n 0, 1) := by decide +kernel
theorem dX10_chart_19 : decode cX10_chart 19 = .ok (.iload_n 1, 1) := by decide +kernel
theorem dX10_chart_20 : decode cX10_chart 20 = .ok (.invokevirtual 142, 3) := by decide +kernel
theorem dX10_chart_23 : decode cX10_chart 23 = .ok (.iload_n 2, 1) := by decide +kernel
theorem dX10_chart_24 : decode cX10_chart 24 = .ok (.ireturn, 1) := by decide +kernel
theorem dX10_at_0 : decode cX10_at 0 = .ok (.iload_n 1, 1) := by decide +kernel
theorem dX10_at_1 : decode cX10_at 1 = .ok (.invokestatic 147, 3) := by decide +kernel
theorem dX10_at_4 : decode cX10_at 4 = .ok (.ifCond .eq 14, 3) := by decide +kernel
theorem dX10_at_7 : decode cX10_at 7 = .ok (.aload_n 0, 1) := by decide +kernel
theorem dX10_at_8 : decode cX10_at 8 = .ok (.getfield 70, 3) := by decide +kernel
theorem dX10_at_11 : decode cX10_at 11 = .ok (.iload_n 1, 1) := by decide +kernel
theorem dX10_at_12 : decode cX10_at 12 = .ok (.invokestatic 150, 3) := by decide +kernel
theorem dX10_at_15 : decode cX10_at 15 = .ok (.goto 5, 3) := by decide +kernel
theorem dX10_at_18 : decode cX10_at 18 = .ok (.ldc 88, 2) := by decide +kernel
theorem dX10_at_20 : decode cX10_at 20 = .ok (.ireturn, 1) := by decide +kernel
theorem dX10_add_0 : decode cX10_add 0 = .ok (.iload_n 1, 1) := by decide +kernel
theorem dX10_add_1 : decode cX10_add 1 = .ok (.invokestatic 154, 3) := by decide +kernel
theorem dX10_add_4 : decode cX10_add 4 = .ok (.ifCond .eq 16, 3) := by decide +kernel
theorem dX10_add_7 : decode cX10_add 7 = .ok (.iload_n 2, 1) := by decide +kernel
theorem dX10_add_8 : decode cX10_add 8 = .ok (.invokestatic 154, 3) := by decide +kernel
theorem dX10_add_11 : decode cX10_add 11 = .ok (.ifCond .eq 9, 3) := by decide +kernel
theorem dX10_add_14 : decode cX10_add 14 = .ok (.iload_n 1, 1) := by decide +kernel
theorem dX10_add_15 : decode cX10_add 15 = .ok (.iload_n 2, 1) := by decide +kernel
theorem dX10_add_16 : decode cX10_add 16 = .ok (.ixor, 1) := by decide +kernel
theorem dX10_add_17 : decode cX10_add 17 = .ok (.goto 5, 3) := by decide +kernel
theorem dX10_add_20 : decode cX10_add 20 = .ok (.ldc 88, 2) := by decide +kernel
theorem dX10_add_22 : decode cX10_add 22 = .ok (.ireturn, 1) := by decide +kernel
theorem dX10_seen_0 : decode cX10_seen 0 = .ok (.iload_n 1, 1) := by decide +kernel
theorem dX10_seen_1 : decode cX10_seen 1 = .ok (.invokestatic 154, 3) := by decide +kernel
theorem dX10_seen_4 : decode cX10_seen 4 = .ok (.ifCond .eq 17, 3) := by decide +kernel
theorem dX10_seen_7 : decode cX10_seen 7 = .ok (.aload_n 0, 1) := by decide +kernel
theorem dX10_seen_8 : decode cX10_seen 8 = .ok (.getfield 70, 3) := by decide +kernel
theorem dX10_seen_11 : decode cX10_seen 11 = .ok (.iload_n 1, 1) := by decide +kernel
theorem dX10_seen_12 : decode cX10_seen 12 = .ok (.iconst 0, 1) := by decide +kernel
theorem dX10_seen_13 : decode cX10_seen 13 = .ok (.bipush 15, 2) := by decide +kernel
theorem dX10_seen_15 : decode cX10_seen 15 = .ok (.invokestatic 159, 3) := by decide +kernel
theorem dX10_seen_18 : decode cX10_seen 18 = .ok (.goto 5, 3) := by decide +kernel
theorem dX10_seen_21 : decode cX10_seen 21 = .ok (.ldc 88, 2) := by decide +kernel
theorem dX10_seen_23 : decode cX10_seen 23 = .ok (.ireturn, 1) := by decide +kernel
theorem dX10_point_0 : decode cX10_point 0 = .ok (.aload_n 0, 1) := by decide +kernel
theorem dX10_point_1 : decode cX10_point 1 = .ok (.getfield 70, 3) := by decide +kernel
theorem dX10_point_4 : decode cX10_point 4 = .ok (.invokestatic 163, 3) := by decide +kernel
theorem dX10_point_7 : decode cX10_point 7 = .ok (.ireturn, 1) := by decide +kernel
theorem dX10_drawing_0 : decode cX10_drawing 0 = .ok (.iload_n 1, 1) := by decide +kernel
theorem dX10_drawing_1 : decode cX10_drawing 1 = .ok (.invokestatic 81, 3) := by decide +kernel
theorem dX10_drawing_4 : decode cX10_drawing 4 = .ok (.ifCond .eq 12, 3) := by decide +kernel
theorem dX10_drawing_7 : decode cX10_drawing 7 = .ok (.iload_n 3, 1) := by decide +kernel
theorem dX10_drawing_8 : decode cX10_drawing 8 = .ok (.ifCond .lt 8, 3) := by decide +kernel
theorem dX10_drawing_11 : decode cX10_drawing 11 = .ok (.iload_n 3, 1) := by decide +kernel
theorem dX10_drawing_12 : decode cX10_drawing 12 = .ok (.iconst 4, 1) := by decide +kernel
theorem dX10_drawing_13 : decode cX10_drawing 13 = .ok (.if_icmp .le 6, 3) := by decide +kernel
theorem dX10_drawing_16 : decode cX10_drawing 16 = .ok (.ldc 88, 2) := by decide +kernel
theorem dX10_drawing_18 : decode cX10_drawing 18 = .ok (.ireturn, 1) := by decide +kernel
theorem dX10_drawing_19 : decode cX10_drawing 19 = .ok (.aload_n 0, 1) := by decide +kernel
theorem dX10_drawing_20 : decode cX10_drawing 20 = .ok (.getfield 11, 3) := by decide +kernel
theorem dX10_drawing_23 : decode cX10_drawing 23 = .ok (.iload_n 1, 1) := by decide +kernel
theorem dX10_drawing_24 : decode cX10_drawing 24 = .ok (.aaload, 1) := by decide +kernel
theorem dX10_drawing_25 : decode cX10_drawing 25 = .ok (.astore 4, 2) := by decide +kernel
theorem dX10_drawing_27 : decode cX10_drawing 27 = .ok (.aload 4, 2) := by decide +kernel
theorem dX10_drawing_29 : decode cX10_drawing 29 = .ok (.iload_n 2, 1) := by decide +kernel
theorem dX10_drawing_30 : decode cX10_drawing 30 = .ok (.bipush 16, 2) := by decide +kernel
theorem dX10_drawing_32 : decode cX10_drawing 32 = .ok (.invokevirtual 100, 3) := by decide +kernel
theorem dX10_drawing_35 : decode cX10_drawing 35 = .ok (.istore 5, 2) := by decide +kernel
theorem dX10_drawing_37 : decode cX10_drawing 37 = .ok (.iload 5, 2) := by decide +kernel
theorem dX10_drawing_39 : decode cX10_drawing 39 = .ok (.ifCond .eq 10, 3) := by decide +kernel
theorem dX10_drawing_42 : decode cX10_drawing 42 = .ok (.aload_n 0, 1) := by decide +kernel
theorem dX10_drawing_43 : decode cX10_drawing 43 = .ok (.iload 5, 2) := by decide +kernel
theorem dX10_drawing_45 : decode cX10_drawing 45 = .ok (.invokevirtual 89, 3) := by decide +kernel
theorem dX10_drawing_48 : decode cX10_drawing 48 = .ok (.ireturn, 1) := by decide +kernel
theorem dX10_drawing_49 : decode cX10_drawing 49 = .ok (.aload 4, 2) := by decide +kernel
theorem dX10_drawing_51 : decode cX10_drawing 51 = .ok (.iload_n 2, 1) := by decide +kernel
theorem dX10_drawing_52 : decode cX10_drawing 52 = .ok (.bipush 16, 2) := by decide +kernel
theorem dX10_drawing_54 : decode cX10_drawing 54 = .ok (.iconst (-1), 1) := by decide +kernel
theorem dX10_drawing_55 : decode cX10_drawing 55 = .ok (.bipush 15, 2) := by decide +kernel
theorem dX10_drawing_57 : decode cX10_drawing 57 = .ok (.invokevirtual 135, 3) := by decide +kernel
theorem dX10_drawing_60 : decode cX10_drawing 60 = .ok (.ifCond .ne 6, 3) := by decide +kernel
theorem dX10_drawing_63 : decode cX10_drawing 63 = .ok (.ldc 88, 2) := by decide +kernel
theorem dX10_drawing_65 : decode cX10_drawing 65 = .ok (.ireturn, 1) := by decide +kernel
theorem dX10_drawing_66 : decode cX10_drawing 66 = .ok (.aload_n 0, 1) := by decide +kernel
theorem dX10_drawing_67 : decode cX10_drawing 67 = .ok (.getfield 18, 3) := by decide +kernel
theorem dX10_drawing_70 : decode cX10_drawing 70 = .ok (.aload 4, 2) := by decide +kernel
theorem dX10_drawing_72 : decode cX10_drawing 72 = .ok (.iload_n 2, 1) := by decide +kernel
theorem dX10_drawing_73 : decode cX10_drawing 73 = .ok (.invokevirtual 167, 3) := by decide +kernel
theorem dX10_drawing_76 : decode cX10_drawing 76 = .ok (.aload 4, 2) := by decide +kernel
theorem dX10_drawing_78 : decode cX10_drawing 78 = .ok (.iload_n 2, 1) := by decide +kernel
theorem dX10_drawing_79 : decode cX10_drawing 79 = .ok (.invokevirtual 170, 3) := by decide +kernel
theorem dX10_drawing_82 : decode cX10_drawing 82 = .ok (.invokevirtual 173, 3) := by decide +kernel
theorem dX10_drawing_85 : decode cX10_drawing 85 = .ok (.aload_n 0, 1) := by decide +kernel
theorem dX10_drawing_86 : decode cX10_drawing 86 = .ok (.aload_n 0, 1) := by decide +kernel
theorem dX10_drawing_87 : decode cX10_drawing 87 = .ok (.getfield 18, 3) := by decide +kernel
theorem dX10_drawing_90 : decode cX10_drawing 90 = .ok (.iload_n 3, 1) := by decide +kernel
theorem dX10_drawing_91 : decode cX10_drawing 91 = .ok (.invokevirtual 177, 3) := by decide +kernel
theorem dX10_drawing_94 : decode cX10_drawing 94 = .ok (.invokevirtual 97, 3) := by decide +kernel
theorem dX10_drawing_97 : decode cX10_drawing 97 = .ok (.ireturn, 1) := by decide +kernel
theorem dX10_feed_0 : decode cX10_feed 0 = .ok (.iload_n 3, 1) := by decide +kernel
theorem dX10_feed_1 : decode cX10_feed 1 = .ok (.iconst 1, 1) := by decide +kernel
theorem dX10_feed_2 : decode cX10_feed 2 = .ok (.if_icmp .lt 9, 3) := by decide +kernel
theorem dX10_feed_5 : decode cX10_feed 5 = .ok (.iload_n 3, 1) := by decide +kernel
theorem dX10_feed_6 : decode cX10_feed 6 = .ok (.bipush 8, 2) := by decide +kernel
theorem dX10_feed_8 : decode cX10_feed 8 = .ok (.if_icmp .le 6, 3) := by decide +kernel
theorem dX10_feed_11 : decode cX10_feed 11 = .ok (.ldc 88, 2) := by decide +kernel
theorem dX10_feed_13 : decode cX10_feed 13 = .ok (.ireturn, 1) := by decide +kernel
theorem dX10_feed_14 : decode cX10_feed 14 = .ok (.aload_n 0, 1) := by decide +kernel
theorem dX10_feed_15 : decode cX10_feed 15 = .ok (.getfield 25, 3) := by decide +kernel
theorem dX10_feed_18 : decode cX10_feed 18 = .ok (.iload_n 3, 1) := by decide +kernel
theorem dX10_feed_19 : decode cX10_feed 19 = .ok (.invokevirtual 180, 3) := by decide +kernel
theorem dX10_feed_22 : decode cX10_feed 22 = .ok (.ifCond .ne 6, 3) := by decide +kernel
theorem dX10_feed_25 : decode cX10_feed 25 = .ok (.ldc 183, 2) := by decide +kernel
theorem dX10_feed_27 : decode cX10_feed 27 = .ok (.ireturn, 1) := by decide +kernel
theorem dX10_feed_28 : decode cX10_feed 28 = .ok (.aload_n 0, 1) := by decide +kernel
theorem dX10_feed_29 : decode cX10_feed 29 = .ok (.getfield 25, 3) := by decide +kernel
theorem dX10_feed_32 : decode cX10_feed 32 = .ok (.lload_n 1, 1) := by decide +kernel
theorem dX10_feed_33 : decode cX10_feed 33 = .ok (.iload_n 3, 1) := by decide +kernel
theorem dX10_feed_34 : decode cX10_feed 34 = .ok (.invokevirtual 184, 3) := by decide +kernel
theorem dX10_feed_37 : decode cX10_feed 37 = .ok (.aload_n 0, 1) := by decide +kernel
theorem dX10_feed_38 : decode cX10_feed 38 = .ok (.getfield 25, 3) := by decide +kernel
theorem dX10_feed_41 : decode cX10_feed 41 = .ok (.getfield 188, 3) := by decide +kernel
theorem dX10_feed_44 : decode cX10_feed 44 = .ok (.ireturn, 1) := by decide +kernel
theorem dX10_rules_0 : decode cX10_rules 0 = .ok (.aload_n 0, 1) := by decide +kernel
theorem dX10_rules_1 : decode cX10_rules 1 = .ok (.getfield 32, 3) := by decide +kernel
theorem dX10_rules_4 : decode cX10_rules 4 = .ok (.aload_n 0, 1) := by decide +kernel
theorem dX10_rules_5 : decode cX10_rules 5 = .ok (.getfield 57, 3) := by decide +kernel
theorem dX10_rules_8 : decode cX10_rules 8 = .ok (.aload_n 0, 1) := by decide +kernel
theorem dX10_rules_9 : decode cX10_rules 9 = .ok (.getfield 25, 3) := by decide +kernel
theorem dX10_rules_12 : decode cX10_rules 12 = .ok (.invokevirtual 191, 3) := by decide +kernel
theorem dX10_rules_15 : decode cX10_rules 15 = .ok (.istore_n 1, 1) := by decide +kernel
theorem dX10_rules_16 : decode cX10_rules 16 = .ok (.aload_n 0, 1) := by decide +kernel
theorem dX10_rules_17 : decode cX10_rules 17 = .ok (.getfield 25, 3) := by decide +kernel
theorem dX10_rules_20 : decode cX10_rules 20 = .ok (.iconst 0, 1) := by decide +kernel
theorem dX10_rules_21 : decode cX10_rules 21 = .ok (.putfield 188, 3) := by decide +kernel
theorem dX10_rules_24 : decode cX10_rules 24 = .ok (.iload_n 1, 1) := by decide +kernel
theorem dX10_rules_25 : decode cX10_rules 25 = .ok (.ifCond .ne 25, 3) := by decide +kernel
theorem dX10_rules_28 : decode cX10_rules 28 = .ok (.aload_n 0, 1) := by decide +kernel
theorem dX10_rules_29 : decode cX10_rules 29 = .ok (.aload_n 0, 1) := by decide +kernel
theorem dX10_rules_30 : decode cX10_rules 30 = .ok (.getfield 32, 3) := by decide +kernel
theorem dX10_rules_33 : decode cX10_rules 33 = .ok (.getfield 195, 3) := by decide +kernel
theorem dX10_rules_36 : decode cX10_rules 36 = .ok (.putfield 74, 3) := by decide +kernel
theorem dX10_rules_39 : decode cX10_rules 39 = .ok (.ldc 198, 2) := by decide +kernel
theorem dX10_rules_41 : decode cX10_rules 41 = .ok (.aload_n 0, 1) := by decide +kernel
theorem dX10_rules_42 : decode cX10_rules 42 = .ok (.getfield 32, 3) := by decide +kernel
theorem dX10_rules_45 : decode cX10_rules 45 = .ok (.getfield 199, 3) := by decide +kernel
theorem dX10_rules_48 : decode cX10_rules 48 = .ok (.isub, 1) := by decide +kernel
theorem dX10_rules_49 : decode cX10_rules 49 = .ok (.ireturn, 1) := by decide +kernel
theorem dX10_rules_50 : decode cX10_rules 50 = .ok (.aload_n 0, 1) := by decide +kernel
theorem dX10_rules_51 : decode cX10_rules 51 = .ok (.getfield 53, 3) := by decide +kernel
theorem dX10_rules_54 : decode cX10_rules 54 = .ok (.astore_n 2, 1) := by decide +kernel
theorem dX10_rules_55 : decode cX10_rules 55 = .ok (.aload_n 0, 1) := by decide +kernel
theorem dX10_rules_56 : decode cX10_rules 56 = .ok (.aload_n 0, 1) := by decide +kernel
theorem dX10_rules_57 : decode cX10_rules 57 = .ok (.getfield 57, 3) := by decide +kernel
theorem dX10_rules_60 : decode cX10_rules 60 = .ok (.putfield 53, 3) := by decide +kernel
theorem dX10_rules_63 : decode cX10_rules 63 = .ok (.aload_n 0, 1) := by decide +kernel
theorem dX10_rules_64 : decode cX10_rules 64 = .ok (.aload_n 2, 1) := by decide +kernel
theorem dX10_rules_65 : decode cX10_rules 65 = .ok (.putfield 57, 3) := by decide +kernel
theorem dX10_rules_68 : decode cX10_rules 68 = .ok (.aload_n 0, 1) := by decide +kernel
theorem dX10_rules_69 : decode cX10_rules 69 = .ok (.getfield 53, 3) := by decide +kernel
theorem dX10_rules_72 : decode cX10_rules 72 = .ok (.getfield 202, 3) := by decide +kernel
theorem dX10_rules_75 : decode cX10_rules 75 = .ok (.ireturn, 1) := by decide +kernel
theorem dX10_fault_0 : decode cX10_fault 0 = .ok (.aload_n 0, 1) := by decide +kernel
theorem dX10_fault_1 : decode cX10_fault 1 = .ok (.getfield 74, 3) := by decide +kernel
theorem dX10_fault_4 : decode cX10_fault 4 = .ok (.ireturn, 1) := by decide +kernel
theorem dX10_said_0 : decode cX10_said 0 = .ok (.iload_n 1, 1) := by decide +kernel
theorem dX10_said_1 : decode cX10_said 1 = .ok (.ifCond .eq 11, 3) := by decide +kernel
theorem dX10_said_4 : decode cX10_said 4 = .ok (.iload_n 1, 1) := by decide +kernel
theorem dX10_said_5 : decode cX10_said 5 = .ok (.iconst 1, 1) := by decide +kernel
theorem dX10_said_6 : decode cX10_said 6 = .ok (.if_icmp .eq 6, 3) := by decide +kernel
theorem dX10_said_9 : decode cX10_said 9 = .ok (.ldc 88, 2) := by decide +kernel
theorem dX10_said_11 : decode cX10_said 11 = .ok (.ireturn, 1) := by decide +kernel
theorem dX10_said_12 : decode cX10_said 12 = .ok (.aload_n 0, 1) := by decide +kernel
theorem dX10_said_13 : decode cX10_said 13 = .ok (.getfield 53, 3) := by decide +kernel
theorem dX10_said_16 : decode cX10_said 16 = .ok (.aload_n 0, 1) := by decide +kernel
theorem dX10_said_17 : decode cX10_said 17 = .ok (.getfield 70, 3) := by decide +kernel
theorem dX10_said_20 : decode cX10_said 20 = .ok (.invokevirtual 203, 3) := by decide +kernel
theorem dX10_said_23 : decode cX10_said 23 = .ok (.istore_n 2, 1) := by decide +kernel
theorem dX10_said_24 : decode cX10_said 24 = .ok (.iload_n 2, 1) := by decide +kernel
theorem dX10_said_25 : decode cX10_said 25 = .ok (.ldc 206, 2) := by decide +kernel
theorem dX10_said_27 : decode cX10_said 27 = .ok (.if_icmp .ne 6, 3) := by decide +kernel
theorem dX10_said_30 : decode cX10_said 30 = .ok (.ldc 206, 2) := by decide +kernel
theorem dX10_said_32 : decode cX10_said 32 = .ok (.ireturn, 1) := by decide +kernel
theorem dX10_said_33 : decode cX10_said 33 = .ok (.iload_n 1, 1) := by decide +kernel
theorem dX10_said_34 : decode cX10_said 34 = .ok (.ifCond .ne 14, 3) := by decide +kernel
theorem dX10_said_37 : decode cX10_said 37 = .ok (.aload_n 0, 1) := by decide +kernel
theorem dX10_said_38 : decode cX10_said 38 = .ok (.getfield 53, 3) := by decide +kernel
theorem dX10_said_41 : decode cX10_said 41 = .ok (.iload_n 2, 1) := by decide +kernel
theorem dX10_said_42 : decode cX10_said 42 = .ok (.invokevirtual 207, 3) := by decide +kernel
theorem dX10_said_45 : decode cX10_said 45 = .ok (.goto 4, 3) := by decide +kernel
theorem dX10_said_48 : decode cX10_said 48 = .ok (.iload_n 2, 1) := by decide +kernel
theorem dX10_said_49 : decode cX10_said 49 = .ok (.ireturn, 1) := by decide +kernel
theorem dX10_holds_0 : decode cX10_holds 0 = .ok (.aload_n 0, 1) := by decide +kernel
theorem dX10_holds_1 : decode cX10_holds 1 = .ok (.getfield 53, 3) := by decide +kernel
theorem dX10_holds_4 : decode cX10_holds 4 = .ok (.iload_n 1, 1) := by decide +kernel
theorem dX10_holds_5 : decode cX10_holds 5 = .ok (.invokevirtual 210, 3) := by decide +kernel
theorem dX10_holds_8 : decode cX10_holds 8 = .ok (.ifCond .ne 6, 3) := by decide +kernel
theorem dX10_holds_11 : decode cX10_holds 11 = .ok (.ldc 88, 2) := by decide +kernel
theorem dX10_holds_13 : decode cX10_holds 13 = .ok (.ireturn, 1) := by decide +kernel
theorem dX10_holds_14 : decode cX10_holds 14 = .ok (.aload_n 0, 1) := by decide +kernel
theorem dX10_holds_15 : decode cX10_holds 15 = .ok (.getfield 53, 3) := by decide +kernel
theorem dX10_holds_18 : decode cX10_holds 18 = .ok (.iload_n 1, 1) := by decide +kernel
theorem dX10_holds_19 : decode cX10_holds 19 = .ok (.aload_n 0, 1) := by decide +kernel
theorem dX10_holds_20 : decode cX10_holds 20 = .ok (.getfield 70, 3) := by decide +kernel
theorem dX10_holds_23 : decode cX10_holds 23 = .ok (.invokevirtual 213, 3) := by decide +kernel
theorem dX10_holds_26 : decode cX10_holds 26 = .ok (.ifCond .eq 7, 3) := by decide +kernel
theorem dX10_holds_29 : decode cX10_holds 29 = .ok (.iconst 1, 1) := by decide +kernel
theorem dX10_holds_30 : decode cX10_holds 30 = .ok (.goto 4, 3) := by decide +kernel
theorem dX10_holds_33 : decode cX10_holds 33 = .ok (.iconst 0, 1) := by decide +kernel
theorem dX10_holds_34 : decode cX10_holds 34 = .ok (.ireturn, 1) := by decide +kernel
theorem dX10_record_0 : decode cX10_record 0 = .ok (.iload_n 1, 1) := by decide +kernel
theorem dX10_record_1 : decode cX10_record 1 = .ok (.invokestatic 217, 3) := by decide +kernel
theorem dX10_record_4 : decode cX10_record 4 = .ok (.ifCond .ne 6, 3) := by decide +kernel
theorem dX10_record_7 : decode cX10_record 7 = .ok (.ldc 88, 2) := by decide +kernel
theorem dX10_record_9 : decode cX10_record 9 = .ok (.ireturn, 1) := by decide +kernel
theorem dX10_record_10 : decode cX10_record 10 = .ok (.aload_n 0, 1) := by decide +kernel
theorem dX10_record_11 : decode cX10_record 11 = .ok (.getfield 39, 3) := by decide +kernel
theorem dX10_record_14 : decode cX10_record 14 = .ok (.invokevirtual 220, 3) := by decide +kernel
theorem dX10_record_17 : decode cX10_record 17 = .ok (.ifCond .eq 6, 3) := by decide +kernel
theorem dX10_record_20 : decode cX10_record 20 = .ok (.ldc 183, 2) := by decide +kernel
theorem dX10_record_22 : decode cX10_record 22 = .ok (.ireturn, 1) := by decide +kernel
theorem dX10_record_23 : decode cX10_record 23 = .ok (.aload_n 0, 1) := by decide +kernel
theorem dX10_record_24 : decode cX10_record 24 = .ok (.getfield 39, 3) := by decide +kernel
theorem dX10_record_27 : decode cX10_record 27 = .ok (.aload_n 0, 1) := by decide +kernel
theorem dX10_record_28 : decode cX10_record 28 = .ok (.getfield 70, 3) := by decide +kernel
theorem dX10_record_31 : decode cX10_record 31 = .ok (.iload_n 1, 1) := by decide +kernel
theorem dX10_record_32 : decode cX10_record 32 = .ok (.invokevirtual 223, 3) := by decide +kernel
theorem dX10_record_35 : decode cX10_record 35 = .ok (.aload_n 0, 1) := by decide +kernel
theorem dX10_record_36 : decode cX10_record 36 = .ok (.getfield 39, 3) := by decide +kernel
theorem dX10_record_39 : decode cX10_record 39 = .ok (.getfield 226, 3) := by decide +kernel
theorem dX10_record_42 : decode cX10_record 42 = .ok (.ireturn, 1) := by decide +kernel
theorem dX10_worth_0 : decode cX10_worth 0 = .ok (.aload_n 0, 1) := by decide +kernel
theorem dX10_worth_1 : decode cX10_worth 1 = .ok (.getfield 53, 3) := by decide +kernel
theorem dX10_worth_4 : decode cX10_worth 4 = .ok (.iload_n 1, 1) := by decide +kernel
theorem dX10_worth_5 : decode cX10_worth 5 = .ok (.invokevirtual 210, 3) := by decide +kernel
theorem dX10_worth_8 : decode cX10_worth 8 = .ok (.ifCond .eq 12, 3) := by decide +kernel
theorem dX10_worth_11 : decode cX10_worth 11 = .ok (.iload_n 2, 1) := by decide +kernel
theorem dX10_worth_12 : decode cX10_worth 12 = .ok (.ifCond .lt 8, 3) := by decide +kernel
theorem dX10_worth_15 : decode cX10_worth 15 = .ok (.iload_n 2, 1) := by decide +kernel
theorem dX10_worth_16 : decode cX10_worth 16 = .ok (.iconst 3, 1) := by decide +kernel
theorem dX10_worth_17 : decode cX10_worth 17 = .ok (.if_icmp .le 6, 3) := by decide +kernel
theorem dX10_worth_20 : decode cX10_worth 20 = .ok (.ldc 88, 2) := by decide +kernel
theorem dX10_worth_22 : decode cX10_worth 22 = .ok (.ireturn, 1) := by decide +kernel
theorem dX10_worth_23 : decode cX10_worth 23 = .ok (.aload_n 0, 1) := by decide +kernel
theorem dX10_worth_24 : decode cX10_worth 24 = .ok (.getfield 39, 3) := by decide +kernel
theorem dX10_worth_27 : decode cX10_worth 27 = .ok (.aload_n 0, 1) := by decide +kernel
theorem dX10_worth_28 : decode cX10_worth 28 = .ok (.getfield 53, 3) := by decide +kernel
theorem dX10_worth_31 : decode cX10_worth 31 = .ok (.iload_n 1, 1) := by decide +kernel
theorem dX10_worth_32 : decode cX10_worth 32 = .ok (.invokevirtual 227, 3) := by decide +kernel
theorem dX10_worth_35 : decode cX10_worth 35 = .ok (.aload_n 0, 1) := by decide +kernel
theorem dX10_worth_36 : decode cX10_worth 36 = .ok (.getfield 39, 3) := by decide +kernel
theorem dX10_worth_39 : decode cX10_worth 39 = .ok (.iload_n 2, 1) := by decide +kernel
theorem dX10_worth_40 : decode cX10_worth 40 = .ok (.invokevirtual 231, 3) := by decide +kernel
theorem dX10_worth_43 : decode cX10_worth 43 = .ok (.ireturn, 1) := by decide +kernel
theorem dX10_best_0 : decode cX10_best 0 = .ok (.ldc 206, 2) := by decide +kernel
theorem dX10_best_2 : decode cX10_best 2 = .ok (.istore_n 1, 1) := by decide +kernel
theorem dX10_best_3 : decode cX10_best 3 = .ok (.iconst 0, 1) := by decide +kernel
theorem dX10_best_4 : decode cX10_best 4 = .ok (.istore_n 2, 1) := by decide +kernel
theorem dX10_best_5 : decode cX10_best 5 = .ok (.iconst 0, 1) := by decide +kernel
theorem dX10_best_6 : decode cX10_best 6 = .ok (.istore_n 3, 1) := by decide +kernel
theorem dX10_best_7 : decode cX10_best 7 = .ok (.iload_n 3, 1) := by decide +kernel
theorem dX10_best_8 : decode cX10_best 8 = .ok (.aload_n 0, 1) := by decide +kernel
theorem dX10_best_9 : decode cX10_best 9 = .ok (.getfield 53, 3) := by decide +kernel
theorem dX10_best_12 : decode cX10_best 12 = .ok (.getfield 202, 3) := by decide +kernel
theorem dX10_best_15 : decode cX10_best 15 = .ok (.if_icmp .ge 47, 3) := by decide +kernel
theorem dX10_best_18 : decode cX10_best 18 = .ok (.aload_n 0, 1) := by decide +kernel
theorem dX10_best_19 : decode cX10_best 19 = .ok (.getfield 39, 3) := by decide +kernel
theorem dX10_best_22 : decode cX10_best 22 = .ok (.aload_n 0, 1) := by decide +kernel
theorem dX10_best_23 : decode cX10_best 23 = .ok (.getfield 53, 3) := by decide +kernel
theorem dX10_best_26 : decode cX10_best 26 = .ok (.iload_n 3, 1) := by decide +kernel
theorem dX10_best_27 : decode cX10_best 27 = .ok (.invokevirtual 227, 3) := by decide +kernel
theorem dX10_best_30 : decode cX10_best 30 = .ok (.aload_n 0, 1) := by decide +kernel
theorem dX10_best_31 : decode cX10_best 31 = .ok (.getfield 39, 3) := by decide +kernel
theorem dX10_best_34 : decode cX10_best 34 = .ok (.invokevirtual 232, 3) := by decide +kernel
theorem dX10_best_37 : decode cX10_best 37 = .ok (.istore 4, 2) := by decide +kernel
theorem dX10_best_39 : decode cX10_best 39 = .ok (.iload_n 1, 1) := by decide +kernel
theorem dX10_best_40 : decode cX10_best 40 = .ok (.ldc 206, 2) := by decide +kernel
theorem dX10_best_42 : decode cX10_best 42 = .ok (.if_icmp .eq 9, 3) := by decide +kernel
theorem dX10_best_45 : decode cX10_best 45 = .ok (.iload 4, 2) := by decide +kernel
theorem dX10_best_47 : decode cX10_best 47 = .ok (.iload_n 2, 1) := by decide +kernel
theorem dX10_best_48 : decode cX10_best 48 = .ok (.if_icmp .le 8, 3) := by decide +kernel
theorem dX10_best_51 : decode cX10_best 51 = .ok (.iload_n 3, 1) := by decide +kernel
theorem dX10_best_52 : decode cX10_best 52 = .ok (.istore_n 1, 1) := by decide +kernel
theorem dX10_best_53 : decode cX10_best 53 = .ok (.iload 4, 2) := by decide +kernel
theorem dX10_best_55 : decode cX10_best 55 = .ok (.istore_n 2, 1) := by decide +kernel
theorem dX10_best_56 : decode cX10_best 56 = .ok (.iinc 3 1, 3) := by decide +kernel
theorem dX10_best_59 : decode cX10_best 59 = .ok (.goto (-52), 3) := by decide +kernel
theorem dX10_best_62 : decode cX10_best 62 = .ok (.iload_n 1, 1) := by decide +kernel
theorem dX10_best_63 : decode cX10_best 63 = .ok (.ireturn, 1) := by decide +kernel
theorem dX10_kind_0 : decode cX10_kind 0 = .ok (.iload_n 1, 1) := by decide +kernel
theorem dX10_kind_1 : decode cX10_kind 1 = .ok (.invokestatic 154, 3) := by decide +kernel
theorem dX10_kind_4 : decode cX10_kind 4 = .ok (.ifCond .eq 10, 3) := by decide +kernel
theorem dX10_kind_7 : decode cX10_kind 7 = .ok (.iload_n 1, 1) := by decide +kernel
theorem dX10_kind_8 : decode cX10_kind 8 = .ok (.invokestatic 236, 3) := by decide +kernel
theorem dX10_kind_11 : decode cX10_kind 11 = .ok (.goto 5, 3) := by decide +kernel
theorem dX10_kind_14 : decode cX10_kind 14 = .ok (.ldc 88, 2) := by decide +kernel
theorem dX10_kind_16 : decode cX10_kind 16 = .ok (.ireturn, 1) := by decide +kernel
theorem dX10_as_0 : decode cX10_as 0 = .ok (.iload_n 1, 1) := by decide +kernel
theorem dX10_as_1 : decode cX10_as 1 = .ok (.invokestatic 154, 3) := by decide +kernel
theorem dX10_as_4 : decode cX10_as 4 = .ok (.ifCond .eq 12, 3) := by decide +kernel
theorem dX10_as_7 : decode cX10_as 7 = .ok (.iload_n 2, 1) := by decide +kernel
theorem dX10_as_8 : decode cX10_as 8 = .ok (.ifCond .lt 8, 3) := by decide +kernel
theorem dX10_as_11 : decode cX10_as 11 = .ok (.iload_n 2, 1) := by decide +kernel
theorem dX10_as_12 : decode cX10_as 12 = .ok (.iconst 3, 1) := by decide +kernel
theorem dX10_as_13 : decode cX10_as 13 = .ok (.if_icmp .le 6, 3) := by decide +kernel
theorem dX10_as_16 : decode cX10_as 16 = .ok (.ldc 88, 2) := by decide +kernel
theorem dX10_as_18 : decode cX10_as 18 = .ok (.ireturn, 1) := by decide +kernel
theorem dX10_as_19 : decode cX10_as 19 = .ok (.iload_n 1, 1) := by decide +kernel
theorem dX10_as_20 : decode cX10_as 20 = .ok (.iload_n 2, 1) := by decide +kernel
theorem dX10_as_21 : decode cX10_as 21 = .ok (.invokestatic 239, 3) := by decide +kernel
theorem dX10_as_24 : decode cX10_as 24 = .ok (.ifCond .ne 9, 3) := by decide +kernel
theorem dX10_as_27 : decode cX10_as 27 = .ok (.aload_n 0, 1) := by decide +kernel
theorem dX10_as_28 : decode cX10_as 28 = .ok (.iconst 3, 1) := by decide +kernel
theorem dX10_as_29 : decode cX10_as 29 = .ok (.invokevirtual 89, 3) := by decide +kernel
theorem dX10_as_32 : decode cX10_as 32 = .ok (.ireturn, 1) := by decide +kernel
theorem dX10_as_33 : decode cX10_as 33 = .ok (.aload_n 0, 1) := by decide +kernel
theorem dX10_as_34 : decode cX10_as 34 = .ok (.iload_n 1, 1) := by decide +kernel
theorem dX10_as_35 : decode cX10_as 35 = .ok (.invokestatic 242, 3) := by decide +kernel
theorem dX10_as_38 : decode cX10_as 38 = .ok (.invokevirtual 97, 3) := by decide +kernel
theorem dX10_as_41 : decode cX10_as 41 = .ok (.ireturn, 1) := by decide +kernel
theorem dX10_ask_0 : decode cX10_ask 0 = .ok (.iload_n 1, 1) := by decide +kernel
theorem dX10_ask_1 : decode cX10_ask 1 = .ok (.invokestatic 154, 3) := by decide +kernel
theorem dX10_ask_4 : decode cX10_ask 4 = .ok (.ifCond .eq 12, 3) := by decide +kernel
theorem dX10_ask_7 : decode cX10_ask 7 = .ok (.iload_n 2, 1) := by decide +kernel
theorem dX10_ask_8 : decode cX10_ask 8 = .ok (.ifCond .eq 11, 3) := by decide +kernel
theorem dX10_ask_11 : decode cX10_ask 11 = .ok (.iload_n 2, 1) := by decide +kernel
theorem dX10_ask_12 : decode cX10_ask 12 = .ok (.iconst 1, 1) := by decide +kernel
theorem dX10_ask_13 : decode cX10_ask 13 = .ok (.if_icmp .eq 6, 3) := by decide +kernel
theorem dX10_ask_16 : decode cX10_ask 16 = .ok (.ldc 88, 2) := by decide +kernel
theorem dX10_ask_18 : decode cX10_ask 18 = .ok (.ireturn, 1) := by decide +kernel
theorem dX10_ask_19 : decode cX10_ask 19 = .ok (.aload_n 0, 1) := by decide +kernel
theorem dX10_ask_20 : decode cX10_ask 20 = .ok (.getfield 46, 3) := by decide +kernel
theorem dX10_ask_23 : decode cX10_ask 23 = .ok (.invokevirtual 245, 3) := by decide +kernel
theorem dX10_ask_26 : decode cX10_ask 26 = .ok (.iload_n 2, 1) := by decide +kernel
theorem dX10_ask_27 : decode cX10_ask 27 = .ok (.ifCond .ne 14, 3) := by decide +kernel
theorem dX10_ask_30 : decode cX10_ask 30 = .ok (.aload_n 0, 1) := by decide +kernel
theorem dX10_ask_31 : decode cX10_ask 31 = .ok (.getfield 46, 3) := by decide +kernel
theorem dX10_ask_34 : decode cX10_ask 34 = .ok (.iload_n 1, 1) := by decide +kernel
theorem dX10_ask_35 : decode cX10_ask 35 = .ok (.invokevirtual 248, 3) := by decide +kernel
theorem dX10_ask_38 : decode cX10_ask 38 = .ok (.goto 11, 3) := by decide +kernel
theorem dX10_ask_41 : decode cX10_ask 41 = .ok (.aload_n 0, 1) := by decide +kernel
theorem dX10_ask_42 : decode cX10_ask 42 = .ok (.getfield 46, 3) := by decide +kernel
theorem dX10_ask_45 : decode cX10_ask 45 = .ok (.iload_n 1, 1) := by decide +kernel
theorem dX10_ask_46 : decode cX10_ask 46 = .ok (.invokevirtual 251, 3) := by decide +kernel
theorem dX10_ask_49 : decode cX10_ask 49 = .ok (.ireturn, 1) := by decide +kernel
theorem dX10_trace_0 : decode cX10_trace 0 = .ok (.aload_n 0, 1) := by decide +kernel
theorem dX10_trace_1 : decode cX10_trace 1 = .ok (.getfield 46, 3) := by decide +kernel
theorem dX10_trace_4 : decode cX10_trace 4 = .ok (.iload_n 1, 1) := by decide +kernel
theorem dX10_trace_5 : decode cX10_trace 5 = .ok (.invokevirtual 254, 3) := by decide +kernel
theorem dX10_trace_8 : decode cX10_trace 8 = .ok (.ireturn, 1) := by decide +kernel
theorem dX10_count_0 : decode cX10_count 0 = .ok (.iload_n 1, 1) := by decide +kernel
theorem dX10_count_1 : decode cX10_count 1 = .ok (.tableswitch 93 0 6 #[43, 48, 56, 64, 72, 80, 88], 43) := by decide +kernel
theorem dX10_count_44 : decode cX10_count 44 = .ok (.aload_n 0, 1) := by decide +kernel
theorem dX10_count_45 : decode cX10_count 45 = .ok (.invokevirtual 257, 3) := by decide +kernel
theorem dX10_count_48 : decode cX10_count 48 = .ok (.ireturn, 1) := by decide +kernel
theorem dX10_count_49 : decode cX10_count 49 = .ok (.aload_n 0, 1) := by decide +kernel
theorem dX10_count_50 : decode cX10_count 50 = .ok (.getfield 53, 3) := by decide +kernel
theorem dX10_count_53 : decode cX10_count 53 = .ok (.getfield 202, 3) := by decide +kernel
theorem dX10_count_56 : decode cX10_count 56 = .ok (.ireturn, 1) := by decide +kernel
theorem dX10_count_57 : decode cX10_count 57 = .ok (.aload_n 0, 1) := by decide +kernel
theorem dX10_count_58 : decode cX10_count 58 = .ok (.getfield 39, 3) := by decide +kernel
theorem dX10_count_61 : decode cX10_count 61 = .ok (.getfield 226, 3) := by decide +kernel
theorem dX10_count_64 : decode cX10_count 64 = .ok (.ireturn, 1) := by decide +kernel
theorem dX10_count_65 : decode cX10_count 65 = .ok (.aload_n 0, 1) := by decide +kernel
theorem dX10_count_66 : decode cX10_count 66 = .ok (.getfield 39, 3) := by decide +kernel
theorem dX10_count_69 : decode cX10_count 69 = .ok (.invokevirtual 260, 3) := by decide +kernel
theorem dX10_count_72 : decode cX10_count 72 = .ok (.ireturn, 1) := by decide +kernel
theorem dX10_count_73 : decode cX10_count 73 = .ok (.aload_n 0, 1) := by decide +kernel
theorem dX10_count_74 : decode cX10_count 74 = .ok (.getfield 39, 3) := by decide +kernel
theorem dX10_count_77 : decode cX10_count 77 = .ok (.invokevirtual 263, 3) := by decide +kernel
theorem dX10_count_80 : decode cX10_count 80 = .ok (.ireturn, 1) := by decide +kernel
theorem dX10_count_81 : decode cX10_count 81 = .ok (.aload_n 0, 1) := by decide +kernel
theorem dX10_count_82 : decode cX10_count 82 = .ok (.getfield 25, 3) := by decide +kernel
theorem dX10_count_85 : decode cX10_count 85 = .ok (.getfield 188, 3) := by decide +kernel
theorem dX10_count_88 : decode cX10_count 88 = .ok (.ireturn, 1) := by decide +kernel
theorem dX10_count_89 : decode cX10_count 89 = .ok (.aload_n 0, 1) := by decide +kernel
theorem dX10_count_90 : decode cX10_count 90 = .ok (.getfield 60, 3) := by decide +kernel
theorem dX10_count_93 : decode cX10_count 93 = .ok (.ireturn, 1) := by decide +kernel
theorem dX10_count_94 : decode cX10_count 94 = .ok (.ldc 88, 2) := by decide +kernel
theorem dX10_count_96 : decode cX10_count 96 = .ok (.ireturn, 1) := by decide +kernel
theorem dX10_status_0 : decode cX10_status 0 = .ok (.aload_n 0, 1) := by decide +kernel
theorem dX10_status_1 : decode cX10_status 1 = .ok (.getfield 77, 3) := by decide +kernel
theorem dX10_status_4 : decode cX10_status 4 = .ok (.ireturn, 1) := by decide +kernel
theorem dX10_found_0 : decode cX10_found 0 = .ok (.aload_n 0, 1) := by decide +kernel
theorem dX10_found_1 : decode cX10_found 1 = .ok (.iload_n 1, 1) := by decide +kernel
theorem dX10_found_2 : decode cX10_found 2 = .ok (.putfield 77, 3) := by decide +kernel
theorem dX10_found_5 : decode cX10_found 5 = .ok (.ldc_w 266, 3) := by decide +kernel
theorem dX10_found_8 : decode cX10_found 8 = .ok (.iload_n 1, 1) := by decide +kernel
theorem dX10_found_9 : decode cX10_found 9 = .ok (.isub, 1) := by decide +kernel
theorem dX10_found_10 : decode cX10_found 10 = .ok (.ireturn, 1) := by decide +kernel
theorem dX10_done_0 : decode cX10_done 0 = .ok (.aload_n 0, 1) := by decide +kernel
theorem dX10_done_1 : decode cX10_done 1 = .ok (.iconst 0, 1) := by decide +kernel
theorem dX10_done_2 : decode cX10_done 2 = .ok (.putfield 77, 3) := by decide +kernel
theorem dX10_done_5 : decode cX10_done 5 = .ok (.iload_n 1, 1) := by decide +kernel
theorem dX10_done_6 : decode cX10_done 6 = .ok (.ireturn, 1) := by decide +kernel
theorem dX10_tellChart_0 : decode cX10_tellChart 0 = .ok (.aload_n 0, 1) := by decide +kernel
theorem dX10_tellChart_1 : decode cX10_tellChart 1 = .ok (.iload_n 1, 1) := by decide +kernel
theorem dX10_tellChart_2 : decode cX10_tellChart 2 = .ok (.putfield 60, 3) := by decide +kernel
theorem dX10_tellChart_5 : decode cX10_tellChart 5 = .ok (.aload_n 0, 1) := by decide +kernel
theorem dX10_tellChart_6 : decode cX10_tellChart 6 = .ok (.iload_n 1, 1) := by decide +kernel
theorem dX10_tellChart_7 : decode cX10_tellChart 7 = .ok (.invokestatic 64, 3) := by decide +kernel
theorem dX10_tellChart_10 : decode cX10_tellChart 10 = .ok (.putfield 70, 3) := by decide +kernel
theorem dX10_tellChart_13 : decode cX10_tellChart 13 = .ok (.return_, 1) := by decide +kernel
theorem dX10_sheetsThere_0 : decode cX10_sheetsThere 0 = .ok (.iconst 0, 1) := by decide +kernel
theorem dX10_sheetsThere_1 : decode cX10_sheetsThere 1 = .ok (.istore_n 1, 1) := by decide +kernel
theorem dX10_sheetsThere_2 : decode cX10_sheetsThere 2 = .ok (.iconst 0, 1) := by decide +kernel
theorem dX10_sheetsThere_3 : decode cX10_sheetsThere 3 = .ok (.istore_n 2, 1) := by decide +kernel
theorem dX10_sheetsThere_4 : decode cX10_sheetsThere 4 = .ok (.iload_n 2, 1) := by decide +kernel
theorem dX10_sheetsThere_5 : decode cX10_sheetsThere 5 = .ok (.bipush 8, 2) := by decide +kernel
theorem dX10_sheetsThere_7 : decode cX10_sheetsThere 7 = .ok (.if_icmp .ge 24, 3) := by decide +kernel
theorem dX10_sheetsThere_10 : decode cX10_sheetsThere 10 = .ok (.aload_n 0, 1) := by decide +kernel
theorem dX10_sheetsThere_11 : decode cX10_sheetsThere 11 = .ok (.getfield 11, 3) := by decide +kernel
theorem dX10_sheetsThere_14 : decode cX10_sheetsThere 14 = .ok (.iload_n 2, 1) := by decide +kernel
theorem dX10_sheetsThere_15 : decode cX10_sheetsThere 15 = .ok (.aaload, 1) := by decide +kernel
theorem dX10_sheetsThere_16 : decode cX10_sheetsThere 16 = .ok (.invokevirtual 107, 3) := by decide +kernel
theorem dX10_sheetsThere_19 : decode cX10_sheetsThere 19 = .ok (.ifCond .ne 6, 3) := by decide +kernel
theorem dX10_sheetsThere_22 : decode cX10_sheetsThere 22 = .ok (.iinc 1 1, 3) := by decide +kernel
theorem dX10_sheetsThere_25 : decode cX10_sheetsThere 25 = .ok (.iinc 2 1, 3) := by decide +kernel
theorem dX10_sheetsThere_28 : decode cX10_sheetsThere 28 = .ok (.goto (-24), 3) := by decide +kernel
theorem dX10_sheetsThere_31 : decode cX10_sheetsThere 31 = .ok (.iload_n 1, 1) := by decide +kernel
theorem dX10_sheetsThere_32 : decode cX10_sheetsThere 32 = .ok (.ireturn, 1) := by decide +kernel
theorem dX10_isSheet_0 : decode cX10_isSheet 0 = .ok (.iload_n 0, 1) := by decide +kernel
theorem dX10_isSheet_1 : decode cX10_isSheet 1 = .ok (.ifCond .lt 13, 3) := by decide +kernel
theorem dX10_isSheet_4 : decode cX10_isSheet 4 = .ok (.iload_n 0, 1) := by decide +kernel
theorem dX10_isSheet_5 : decode cX10_isSheet 5 = .ok (.bipush 8, 2) := by decide +kernel
theorem dX10_isSheet_7 : decode cX10_isSheet 7 = .ok (.if_icmp .ge 7, 3) := by decide +kernel
theorem dX10_isSheet_10 : decode cX10_isSheet 10 = .ok (.iconst 1, 1) := by decide +kernel
theorem dX10_isSheet_11 : decode cX10_isSheet 11 = .ok (.goto 4, 3) := by decide +kernel
theorem dX10_isSheet_14 : decode cX10_isSheet 14 = .ok (.iconst 0, 1) := by decide +kernel
theorem dX10_isSheet_15 : decode cX10_isSheet 15 = .ok (.ireturn, 1) := by decide +kernel
theorem dX10_isPlace_0 : decode cX10_isPlace 0 = .ok (.iload_n 0, 1) := by decide +kernel
theorem dX10_isPlace_1 : decode cX10_isPlace 1 = .ok (.ifCond .lt 13, 3) := by decide +kernel
theorem dX10_isPlace_4 : decode cX10_isPlace 4 = .ok (.iload_n 0, 1) := by decide +kernel
theorem dX10_isPlace_5 : decode cX10_isPlace 5 = .ok (.bipush 16, 2) := by decide +kernel
theorem dX10_isPlace_7 : decode cX10_isPlace 7 = .ok (.if_icmp .ge 7, 3) := by decide +kernel
theorem dX10_isPlace_10 : decode cX10_isPlace 10 = .ok (.iconst 1, 1) := by decide +kernel
theorem dX10_isPlace_11 : decode cX10_isPlace 11 = .ok (.goto 4, 3) := by decide +kernel
theorem dX10_isPlace_14 : decode cX10_isPlace 14 = .ok (.iconst 0, 1) := by decide +kernel
theorem dX10_isPlace_15 : decode cX10_isPlace 15 = .ok (.ireturn, 1) := by decide +kernel
theorem dX11_init_0 : decode cX11_init 0 = .ok (.aload_n 0, 1) := by decide +kernel
theorem dX11_init_1 : decode cX11_init 1 = .ok (.invokespecial 1, 3) := by decide +kernel
theorem dX11_init_4 : decode cX11_init 4 = .ok (.aload_n 0, 1) := by decide +kernel
theorem dX11_init_5 : decode cX11_init 5 = .ok (.bipush 8, 2) := by decide +kernel
theorem dX11_init_7 : decode cX11_init 7 = .ok (.newarray .int, 2) := by decide +kernel
theorem dX11_init_9 : decode cX11_init 9 = .ok (.dup, 1) := by decide +kernel
theorem dX11_init_10 : decode cX11_init 10 = .ok (.iconst 0, 1) := by decide +kernel
theorem dX11_init_11 : decode cX11_init 11 = .ok (.iconst (-1), 1) := by decide +kernel
theorem dX11_init_12 : decode cX11_init 12 = .ok (.iastore, 1) := by decide +kernel
theorem dX11_init_13 : decode cX11_init 13 = .ok (.dup, 1) := by decide +kernel
theorem dX11_init_14 : decode cX11_init 14 = .ok (.iconst 1, 1) := by decide +kernel
theorem dX11_init_15 : decode cX11_init 15 = .ok (.iconst (-1), 1) := by decide +kernel
theorem dX11_init_16 : decode cX11_init 16 = .ok (.iastore, 1) := by decide +kernel
theorem dX11_init_17 : decode cX11_init 17 = .ok (.dup, 1) := by decide +kernel
theorem dX11_init_18 : decode cX11_init 18 = .ok (.iconst 2, 1) := by decide +kernel
theorem dX11_init_19 : decode cX11_init 19 = .ok (.iconst (-1), 1) := by decide +kernel
theorem dX11_init_20 : decode cX11_init 20 = .ok (.iastore, 1) := by decide +kernel
theorem dX11_init_21 : decode cX11_init 21 = .ok (.dup, 1) := by decide +kernel
theorem dX11_init_22 : decode cX11_init 22 = .ok (.iconst 3, 1) := by decide +kernel
theorem dX11_init_23 : decode cX11_init 23 = .ok (.iconst (-1), 1) := by decide +kernel
theorem dX11_init_24 : decode cX11_init 24 = .ok (.iastore, 1) := by decide +kernel
theorem dX11_init_25 : decode cX11_init 25 = .ok (.dup, 1) := by decide +kernel
theorem dX11_init_26 : decode cX11_init 26 = .ok (.iconst 4, 1) := by decide +kernel
theorem dX11_init_27 : decode cX11_init 27 = .ok (.iconst (-1), 1) := by decide +kernel
theorem dX11_init_28 : decode cX11_init 28 = .ok (.iastore, 1) := by decide +kernel
theorem dX11_init_29 : decode cX11_init 29 = .ok (.dup, 1) := by decide +kernel
theorem dX11_init_30 : decode cX11_init 30 = .ok (.iconst 5, 1) := by decide +kernel
theorem dX11_init_31 : decode cX11_init 31 = .ok (.iconst (-1), 1) := by decide +kernel
theorem dX11_init_32 : decode cX11_init 32 = .ok (.iastore, 1) := by decide +kernel
theorem dX11_init_33 : decode cX11_init 33 = .ok (.dup, 1) := by decide +kernel
theorem dX11_init_34 : decode cX11_init 34 = .ok (.bipush 6, 2) := by decide +kernel
theorem dX11_init_36 : decode cX11_init 36 = .ok (.iconst (-1), 1) := by decide +kernel
theorem dX11_init_37 : decode cX11_init 37 = .ok (.iastore, 1) := by decide +kernel
theorem dX11_init_38 : decode cX11_init 38 = .ok (.dup, 1) := by decide +kernel
theorem dX11_init_39 : decode cX11_init 39 = .ok (.bipush 7, 2) := by decide +kernel
theorem dX11_init_41 : decode cX11_init 41 = .ok (.iconst (-1), 1) := by decide +kernel
theorem dX11_init_42 : decode cX11_init 42 = .ok (.iastore, 1) := by decide +kernel
theorem dX11_init_43 : decode cX11_init 43 = .ok (.putfield 7, 3) := by decide +kernel
theorem dX11_init_46 : decode cX11_init 46 = .ok (.aload_n 0, 1) := by decide +kernel
theorem dX11_init_47 : decode cX11_init 47 = .ok (.bipush 8, 2) := by decide +kernel
theorem dX11_init_49 : decode cX11_init 49 = .ok (.newarray .int, 2) := by decide +kernel
theorem dX11_init_51 : decode cX11_init 51 = .ok (.putfield 13, 3) := by decide +kernel
theorem dX11_init_54 : decode cX11_init 54 = .ok (.aload_n 0, 1) := by decide +kernel
theorem dX11_init_55 : decode cX11_init 55 = .ok (.sipush 480, 3) := by decide +kernel
theorem dX11_init_58 : decode cX11_init 58 = .ok (.newarray .int, 2) := by decide +kernel
theorem dX11_init_60 : decode cX11_init 60 = .ok (.putfield 16, 3) := by decide +kernel
theorem dX11_init_63 : decode cX11_init 63 = .ok (.aload_n 0, 1) := by decide +kernel
theorem dX11_init_64 : decode cX11_init 64 = .ok (.bipush 16, 2) := by decide +kernel
theorem dX11_init_66 : decode cX11_init 66 = .ok (.newarray .int, 2) := by decide +kernel
theorem dX11_init_68 : decode cX11_init 68 = .ok (.putfield 19, 3) := by decide +kernel
theorem dX11_init_71 : decode cX11_init 71 = .ok (.aload_n 0, 1) := by decide +kernel
theorem dX11_init_72 : decode cX11_init 72 = .ok (.bipush 15, 2) := by decide +kernel
theorem dX11_init_74 : decode cX11_init 74 = .ok (.newarray .int, 2) := by decide +kernel
theorem dX11_init_76 : decode cX11_init 76 = .ok (.putfield 22, 3) := by decide +kernel
theorem dX11_init_79 : decode cX11_init 79 = .ok (.aload_n 0, 1) := by decide +kernel
theorem dX11_init_80 : decode cX11_init 80 = .ok (.sipush 180, 3) := by decide +kernel
theorem dX11_init_83 : decode cX11_init 83 = .ok (.newarray .int, 2) := by decide +kernel
theorem dX11_init_85 : decode cX11_init 85 = .ok (.putfield 25, 3) := by decide +kernel
theorem dX11_init_88 : decode cX11_init 88 = .ok (.aload_n 0, 1) := by decide +kernel
theorem dX11_init_89 : decode cX11_init 89 = .ok (.bipush 15, 2) := by decide +kernel
theorem dX11_init_91 : decode cX11_init 91 = .ok (.newarray .int, 2) := by decide +kernel
theorem dX11_init_93 : decode cX11_init 93 = .ok (.putfield 28, 3) := by decide +kernel
theorem dX11_init_96 : decode cX11_init 96 = .ok (.aload_n 0, 1) := by decide +kernel
theorem dX11_init_97 : decode cX11_init 97 = .ok (.bipush 15, 2) := by decide +kernel
theorem dX11_init_99 : decode cX11_init 99 = .ok (.newarray .int, 2) := by decide +kernel
theorem dX11_init_101 : decode cX11_init 101 = .ok (.putfield 31, 3) := by decide +kernel
theorem dX11_init_104 : decode cX11_init 104 = .ok (.aload_n 0, 1) := by decide +kernel
theorem dX11_init_105 : decode cX11_init 105 = .ok (.sipush 180, 3) := by decide +kernel
theorem dX11_init_108 : decode cX11_init 108 = .ok (.newarray .int, 2) := by decide +kernel
theorem dX11_init_110 : decode cX11_init 110 = .ok (.putfield 34, 3) := by decide +kernel
theorem dX11_init_113 : decode cX11_init 113 = .ok (.aload_n 0, 1) := by decide +kernel
theorem dX11_init_114 : decode cX11_init 114 = .ok (.bipush 15, 2) := by decide +kernel
theorem dX11_init_116 : decode cX11_init 116 = .ok (.newarray .int, 2) := by decide +kernel
theorem dX11_init_118 : decode cX11_init 118 = .ok (.putfield 37, 3) := by decide +kernel
theorem dX11_init_121 : decode cX11_init 121 = .ok (.aload_n 0, 1) := by decide +kernel
theorem dX11_init_122 : decode cX11_init 122 = .ok (.sipush 400, 3) := by decide +kernel
theorem dX11_init_125 : decode cX11_init 125 = .ok (.newarray .int, 2) := by decide +kernel
theorem dX11_init_127 : decode cX11_init 127 = .ok (.putfield 40, 3) := by decide +kernel
theorem dX11_init_130 : decode cX11_init 130 = .ok (.aload_n 0, 1) := by decide +kernel
theorem dX11_init_131 : decode cX11_init 131 = .ok (.bipush 100, 2) := by decide +kernel
theorem dX11_init_133 : decode cX11_init 133 = .ok (.newarray .int, 2) := by decide +kernel
theorem dX11_init_135 : decode cX11_init 135 = .ok (.putfield 43, 3) := by decide +kernel
theorem dX11_init_138 : decode cX11_init 138 = .ok (.aload_n 0, 1) := by decide +kernel
theorem dX11_init_139 : decode cX11_init 139 = .ok (.bipush 100, 2) := by decide +kernel
theorem dX11_init_141 : decode cX11_init 141 = .ok (.newarray .int, 2) := by decide +kernel
theorem dX11_init_143 : decode cX11_init 143 = .ok (.putfield 46, 3) := by decide +kernel
theorem dX11_init_146 : decode cX11_init 146 = .ok (.aload_n 0, 1) := by decide +kernel
theorem dX11_init_147 : decode cX11_init 147 = .ok (.bipush 16, 2) := by decide +kernel
theorem dX11_init_149 : decode cX11_init 149 = .ok (.newarray .int, 2) := by decide +kernel
theorem dX11_init_151 : decode cX11_init 151 = .ok (.putfield 49, 3) := by decide +kernel
theorem dX11_init_154 : decode cX11_init 154 = .ok (.return_, 1) := by decide +kernel
theorem dX11_in_0 : decode cX11_in 0 = .ok (.lload_n 0, 1) := by decide +kernel
theorem dX11_in_1 : decode cX11_in 1 = .ok (.lload_n 2, 1) := by decide +kernel
theorem dX11_in_2 : decode cX11_in 2 = .ok (.lcmp, 1) := by decide +kernel
theorem dX11_in_3 : decode cX11_in 3 = .ok (.ifCond .lt 14, 3) := by decide +kernel
theorem dX11_in_6 : decode cX11_in 6 = .ok (.lload_n 0, 1) := by decide +kernel
theorem dX11_in_7 : decode cX11_in 7 = .ok (.lload 4, 2) := by decide +kernel
theorem dX11_in_9 : decode cX11_in 9 = .ok (.lcmp, 1) := by decide +kernel
theorem dX11_in_10 : decode cX11_in 10 = .ok (.ifCond .gt 7, 3) := by decide +kernel
