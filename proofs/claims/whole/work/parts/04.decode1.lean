theorem dX0_init_0 : decode cX0_init 0 = .ok (.aload_n 0, 1) := by decide +kernel
theorem dX0_init_1 : decode cX0_init 1 = .ok (.invokespecial 3, 3) := by decide +kernel
theorem dX0_init_4 : decode cX0_init 4 = .ok (.aload_n 0, 1) := by decide +kernel
theorem dX0_init_5 : decode cX0_init 5 = .ok (.bipush 16, 2) := by decide +kernel
theorem dX0_init_7 : decode cX0_init 7 = .ok (.newarray .int, 2) := by decide +kernel
theorem dX0_init_9 : decode cX0_init 9 = .ok (.putfield 11, 3) := by decide +kernel
theorem dX0_init_12 : decode cX0_init 12 = .ok (.aload_n 0, 1) := by decide +kernel
theorem dX0_init_13 : decode cX0_init 13 = .ok (.iconst 0, 1) := by decide +kernel
theorem dX0_init_14 : decode cX0_init 14 = .ok (.putfield 15, 3) := by decide +kernel
theorem dX0_init_17 : decode cX0_init 17 = .ok (.return_, 1) := by decide +kernel
theorem dX0_emptyTrace_0 : decode cX0_emptyTrace 0 = .ok (.aload_n 0, 1) := by decide +kernel
theorem dX0_emptyTrace_1 : decode cX0_emptyTrace 1 = .ok (.iconst 0, 1) := by decide +kernel
theorem dX0_emptyTrace_2 : decode cX0_emptyTrace 2 = .ok (.putfield 15, 3) := by decide +kernel
theorem dX0_emptyTrace_5 : decode cX0_emptyTrace 5 = .ok (.return_, 1) := by decide +kernel
theorem dX0_traced_0 : decode cX0_traced 0 = .ok (.iload_n 1, 1) := by decide +kernel
theorem dX0_traced_1 : decode cX0_traced 1 = .ok (.ifCond .lt 20, 3) := by decide +kernel
theorem dX0_traced_4 : decode cX0_traced 4 = .ok (.iload_n 1, 1) := by decide +kernel
theorem dX0_traced_5 : decode cX0_traced 5 = .ok (.aload_n 0, 1) := by decide +kernel
theorem dX0_traced_6 : decode cX0_traced 6 = .ok (.getfield 15, 3) := by decide +kernel
theorem dX0_traced_9 : decode cX0_traced 9 = .ok (.if_icmp .ge 12, 3) := by decide +kernel
theorem dX0_traced_12 : decode cX0_traced 12 = .ok (.aload_n 0, 1) := by decide +kernel
theorem dX0_traced_13 : decode cX0_traced 13 = .ok (.getfield 11, 3) := by decide +kernel
theorem dX0_traced_16 : decode cX0_traced 16 = .ok (.iload_n 1, 1) := by decide +kernel
theorem dX0_traced_17 : decode cX0_traced 17 = .ok (.iaload, 1) := by decide +kernel
theorem dX0_traced_18 : decode cX0_traced 18 = .ok (.goto 5, 3) := by decide +kernel
theorem dX0_traced_21 : decode cX0_traced 21 = .ok (.ldc 19, 2) := by decide +kernel
theorem dX0_traced_23 : decode cX0_traced 23 = .ok (.ireturn, 1) := by decide +kernel
theorem dX0_sizeOf_0 : decode cX0_sizeOf 0 = .ok (.iload_n 1, 1) := by decide +kernel
theorem dX0_sizeOf_1 : decode cX0_sizeOf 1 = .ok (.invokestatic 20, 3) := by decide +kernel
theorem dX0_sizeOf_4 : decode cX0_sizeOf 4 = .ok (.lookupswitch 40 #[(1, 34), (2, 28)], 28) := by decide +kernel
theorem dX0_sizeOf_32 : decode cX0_sizeOf 32 = .ok (.aload_n 0, 1) := by decide +kernel
theorem dX0_sizeOf_33 : decode cX0_sizeOf 33 = .ok (.iload_n 1, 1) := by decide +kernel
theorem dX0_sizeOf_34 : decode cX0_sizeOf 34 = .ok (.invokevirtual 26, 3) := by decide +kernel
theorem dX0_sizeOf_37 : decode cX0_sizeOf 37 = .ok (.ireturn, 1) := by decide +kernel
theorem dX0_sizeOf_38 : decode cX0_sizeOf 38 = .ok (.aload_n 0, 1) := by decide +kernel
theorem dX0_sizeOf_39 : decode cX0_sizeOf 39 = .ok (.iload_n 1, 1) := by decide +kernel
theorem dX0_sizeOf_40 : decode cX0_sizeOf 40 = .ok (.invokevirtual 29, 3) := by decide +kernel
theorem dX0_sizeOf_43 : decode cX0_sizeOf 43 = .ok (.ireturn, 1) := by decide +kernel
theorem dX0_sizeOf_44 : decode cX0_sizeOf 44 = .ok (.aload_n 0, 1) := by decide +kernel
theorem dX0_sizeOf_45 : decode cX0_sizeOf 45 = .ok (.iload_n 1, 1) := by decide +kernel
theorem dX0_sizeOf_46 : decode cX0_sizeOf 46 = .ok (.invokevirtual 32, 3) := by decide +kernel
theorem dX0_sizeOf_49 : decode cX0_sizeOf 49 = .ok (.ireturn, 1) := by decide +kernel
theorem dX0_markOf_0 : decode cX0_markOf 0 = .ok (.iload_n 1, 1) := by decide +kernel
theorem dX0_markOf_1 : decode cX0_markOf 1 = .ok (.invokestatic 20, 3) := by decide +kernel
theorem dX0_markOf_4 : decode cX0_markOf 4 = .ok (.lookupswitch 40 #[(1, 34), (2, 28)], 28) := by decide +kernel
theorem dX0_markOf_32 : decode cX0_markOf 32 = .ok (.aload_n 0, 1) := by decide +kernel
theorem dX0_markOf_33 : decode cX0_markOf 33 = .ok (.iload_n 1, 1) := by decide +kernel
theorem dX0_markOf_34 : decode cX0_markOf 34 = .ok (.invokevirtual 35, 3) := by decide +kernel
theorem dX0_markOf_37 : decode cX0_markOf 37 = .ok (.ireturn, 1) := by decide +kernel
theorem dX0_markOf_38 : decode cX0_markOf 38 = .ok (.aload_n 0, 1) := by decide +kernel
theorem dX0_markOf_39 : decode cX0_markOf 39 = .ok (.iload_n 1, 1) := by decide +kernel
theorem dX0_markOf_40 : decode cX0_markOf 40 = .ok (.invokevirtual 38, 3) := by decide +kernel
theorem dX0_markOf_43 : decode cX0_markOf 43 = .ok (.ireturn, 1) := by decide +kernel
theorem dX0_markOf_44 : decode cX0_markOf 44 = .ok (.aload_n 0, 1) := by decide +kernel
theorem dX0_markOf_45 : decode cX0_markOf 45 = .ok (.iload_n 1, 1) := by decide +kernel
theorem dX0_markOf_46 : decode cX0_markOf 46 = .ok (.invokevirtual 41, 3) := by decide +kernel
theorem dX0_markOf_49 : decode cX0_markOf 49 = .ok (.ireturn, 1) := by decide +kernel
theorem dX0_lentSize_0 : decode cX0_lentSize 0 = .ok (.aload_n 0, 1) := by decide +kernel
theorem dX0_lentSize_1 : decode cX0_lentSize 1 = .ok (.bipush 10, 2) := by decide +kernel
theorem dX0_lentSize_3 : decode cX0_lentSize 3 = .ok (.invokevirtual 44, 3) := by decide +kernel
theorem dX0_lentSize_6 : decode cX0_lentSize 6 = .ok (.iload_n 1, 1) := by decide +kernel
theorem dX0_lentSize_7 : decode cX0_lentSize 7 = .ok (.invokestatic 48, 3) := by decide +kernel
theorem dX0_lentSize_10 : decode cX0_lentSize 10 = .ok (.ireturn, 1) := by decide +kernel
theorem dX0_evenSize_0 : decode cX0_evenSize 0 = .ok (.aload_n 0, 1) := by decide +kernel
theorem dX0_evenSize_1 : decode cX0_evenSize 1 = .ok (.bipush 11, 2) := by decide +kernel
theorem dX0_evenSize_3 : decode cX0_evenSize 3 = .ok (.invokevirtual 44, 3) := by decide +kernel
theorem dX0_evenSize_6 : decode cX0_evenSize 6 = .ok (.aload_n 0, 1) := by decide +kernel
theorem dX0_evenSize_7 : decode cX0_evenSize 7 = .ok (.iload_n 1, 1) := by decide +kernel
theorem dX0_evenSize_8 : decode cX0_evenSize 8 = .ok (.invokevirtual 51, 3) := by decide +kernel
theorem dX0_evenSize_11 : decode cX0_evenSize 11 = .ok (.iload_n 1, 1) := by decide +kernel
theorem dX0_evenSize_12 : decode cX0_evenSize 12 = .ok (.iadd, 1) := by decide +kernel
theorem dX0_evenSize_13 : decode cX0_evenSize 13 = .ok (.ireturn, 1) := by decide +kernel
theorem dX0_fastSize_0 : decode cX0_fastSize 0 = .ok (.aload_n 0, 1) := by decide +kernel
theorem dX0_fastSize_1 : decode cX0_fastSize 1 = .ok (.bipush 12, 2) := by decide +kernel
theorem dX0_fastSize_3 : decode cX0_fastSize 3 = .ok (.invokevirtual 44, 3) := by decide +kernel
theorem dX0_fastSize_6 : decode cX0_fastSize 6 = .ok (.aload_n 0, 1) := by decide +kernel
theorem dX0_fastSize_7 : decode cX0_fastSize 7 = .ok (.iload_n 1, 1) := by decide +kernel
theorem dX0_fastSize_8 : decode cX0_fastSize 8 = .ok (.invokevirtual 29, 3) := by decide +kernel
theorem dX0_fastSize_11 : decode cX0_fastSize 11 = .ok (.aload_n 0, 1) := by decide +kernel
theorem dX0_fastSize_12 : decode cX0_fastSize 12 = .ok (.iload_n 1, 1) := by decide +kernel
theorem dX0_fastSize_13 : decode cX0_fastSize 13 = .ok (.invokevirtual 35, 3) := by decide +kernel
theorem dX0_fastSize_16 : decode cX0_fastSize 16 = .ok (.iadd, 1) := by decide +kernel
theorem dX0_fastSize_17 : decode cX0_fastSize 17 = .ok (.ireturn, 1) := by decide +kernel
theorem dX0_oddSize_0 : decode cX0_oddSize 0 = .ok (.aload_n 0, 1) := by decide +kernel
theorem dX0_oddSize_1 : decode cX0_oddSize 1 = .ok (.bipush 13, 2) := by decide +kernel
theorem dX0_oddSize_3 : decode cX0_oddSize 3 = .ok (.invokevirtual 44, 3) := by decide +kernel
theorem dX0_oddSize_6 : decode cX0_oddSize 6 = .ok (.iconst 2, 1) := by decide +kernel
theorem dX0_oddSize_7 : decode cX0_oddSize 7 = .ok (.aload_n 0, 1) := by decide +kernel
theorem dX0_oddSize_8 : decode cX0_oddSize 8 = .ok (.iload_n 1, 1) := by decide +kernel
theorem dX0_oddSize_9 : decode cX0_oddSize 9 = .ok (.invokevirtual 51, 3) := by decide +kernel
theorem dX0_oddSize_12 : decode cX0_oddSize 12 = .ok (.imul, 1) := by decide +kernel
theorem dX0_oddSize_13 : decode cX0_oddSize 13 = .ok (.ireturn, 1) := by decide +kernel
theorem dX0_lentMark_0 : decode cX0_lentMark 0 = .ok (.aload_n 0, 1) := by decide +kernel
theorem dX0_lentMark_1 : decode cX0_lentMark 1 = .ok (.bipush 20, 2) := by decide +kernel
theorem dX0_lentMark_3 : decode cX0_lentMark 3 = .ok (.invokevirtual 44, 3) := by decide +kernel
theorem dX0_lentMark_6 : decode cX0_lentMark 6 = .ok (.iload_n 1, 1) := by decide +kernel
theorem dX0_lentMark_7 : decode cX0_lentMark 7 = .ok (.ireturn, 1) := by decide +kernel
theorem dX0_fastMark_0 : decode cX0_fastMark 0 = .ok (.aload_n 0, 1) := by decide +kernel
theorem dX0_fastMark_1 : decode cX0_fastMark 1 = .ok (.bipush 21, 2) := by decide +kernel
theorem dX0_fastMark_3 : decode cX0_fastMark 3 = .ok (.invokevirtual 44, 3) := by decide +kernel
theorem dX0_fastMark_6 : decode cX0_fastMark 6 = .ok (.aload_n 0, 1) := by decide +kernel
theorem dX0_fastMark_7 : decode cX0_fastMark 7 = .ok (.iload_n 1, 1) := by decide +kernel
theorem dX0_fastMark_8 : decode cX0_fastMark 8 = .ok (.invokevirtual 38, 3) := by decide +kernel
theorem dX0_fastMark_11 : decode cX0_fastMark 11 = .ok (.bipush 100, 2) := by decide +kernel
theorem dX0_fastMark_13 : decode cX0_fastMark 13 = .ok (.iadd, 1) := by decide +kernel
theorem dX0_fastMark_14 : decode cX0_fastMark 14 = .ok (.ireturn, 1) := by decide +kernel
theorem dX0_oddMark_0 : decode cX0_oddMark 0 = .ok (.aload_n 0, 1) := by decide +kernel
theorem dX0_oddMark_1 : decode cX0_oddMark 1 = .ok (.bipush 22, 2) := by decide +kernel
theorem dX0_oddMark_3 : decode cX0_oddMark 3 = .ok (.invokevirtual 44, 3) := by decide +kernel
theorem dX0_oddMark_6 : decode cX0_oddMark 6 = .ok (.aload_n 0, 1) := by decide +kernel
theorem dX0_oddMark_7 : decode cX0_oddMark 7 = .ok (.iload_n 1, 1) := by decide +kernel
theorem dX0_oddMark_8 : decode cX0_oddMark 8 = .ok (.invokevirtual 38, 3) := by decide +kernel
theorem dX0_oddMark_11 : decode cX0_oddMark 11 = .ok (.aload_n 0, 1) := by decide +kernel
theorem dX0_oddMark_12 : decode cX0_oddMark 12 = .ok (.iload_n 1, 1) := by decide +kernel
theorem dX0_oddMark_13 : decode cX0_oddMark 13 = .ok (.invokevirtual 32, 3) := by decide +kernel
theorem dX0_oddMark_16 : decode cX0_oddMark 16 = .ok (.iadd, 1) := by decide +kernel
theorem dX0_oddMark_17 : decode cX0_oddMark 17 = .ok (.ireturn, 1) := by decide +kernel
theorem dX0_begin_0 : decode cX0_begin 0 = .ok (.aload_n 0, 1) := by decide +kernel
theorem dX0_begin_1 : decode cX0_begin 1 = .ok (.getfield 15, 3) := by decide +kernel
theorem dX0_begin_4 : decode cX0_begin 4 = .ok (.bipush 16, 2) := by decide +kernel
theorem dX0_begin_6 : decode cX0_begin 6 = .ok (.if_icmp .ge 23, 3) := by decide +kernel
theorem dX0_begin_9 : decode cX0_begin 9 = .ok (.aload_n 0, 1) := by decide +kernel
theorem dX0_begin_10 : decode cX0_begin 10 = .ok (.getfield 11, 3) := by decide +kernel
theorem dX0_begin_13 : decode cX0_begin 13 = .ok (.aload_n 0, 1) := by decide +kernel
theorem dX0_begin_14 : decode cX0_begin 14 = .ok (.getfield 15, 3) := by decide +kernel
theorem dX0_begin_17 : decode cX0_begin 17 = .ok (.iload_n 1, 1) := by decide +kernel
theorem dX0_begin_18 : decode cX0_begin 18 = .ok (.iastore, 1) := by decide +kernel
theorem dX0_begin_19 : decode cX0_begin 19 = .ok (.aload_n 0, 1) := by decide +kernel
theorem dX0_begin_20 : decode cX0_begin 20 = .ok (.dup, 1) := by decide +kernel
theorem dX0_begin_21 : decode cX0_begin 21 = .ok (.getfield 15, 3) := by decide +kernel
theorem dX0_begin_24 : decode cX0_begin 24 = .ok (.iconst 1, 1) := by decide +kernel
theorem dX0_begin_25 : decode cX0_begin 25 = .ok (.iadd, 1) := by decide +kernel
theorem dX0_begin_26 : decode cX0_begin 26 = .ok (.putfield 15, 3) := by decide +kernel
theorem dX0_begin_29 : decode cX0_begin 29 = .ok (.return_, 1) := by decide +kernel
theorem dX1_init_0 : decode cX1_init 0 = .ok (.aload_n 0, 1) := by decide +kernel
theorem dX1_init_1 : decode cX1_init 1 = .ok (.invokespecial 3, 3) := by decide +kernel
theorem dX1_init_4 : decode cX1_init 4 = .ok (.aload_n 0, 1) := by decide +kernel
theorem dX1_init_5 : decode cX1_init 5 = .ok (.bipush 100, 2) := by decide +kernel
theorem dX1_init_7 : decode cX1_init 7 = .ok (.newarray .long, 2) := by decide +kernel
theorem dX1_init_9 : decode cX1_init 9 = .ok (.putfield 11, 3) := by decide +kernel
theorem dX1_init_12 : decode cX1_init 12 = .ok (.aload_n 0, 1) := by decide +kernel
theorem dX1_init_13 : decode cX1_init 13 = .ok (.bipush 100, 2) := by decide +kernel
theorem dX1_init_15 : decode cX1_init 15 = .ok (.newarray .int, 2) := by decide +kernel
theorem dX1_init_17 : decode cX1_init 17 = .ok (.putfield 15, 3) := by decide +kernel
theorem dX1_init_20 : decode cX1_init 20 = .ok (.aload_n 0, 1) := by decide +kernel
theorem dX1_init_21 : decode cX1_init 21 = .ok (.iconst 3, 1) := by decide +kernel
theorem dX1_init_22 : decode cX1_init 22 = .ok (.newarray .int, 2) := by decide +kernel
theorem dX1_init_24 : decode cX1_init 24 = .ok (.putfield 19, 3) := by decide +kernel
theorem dX1_init_27 : decode cX1_init 27 = .ok (.aload_n 0, 1) := by decide +kernel
theorem dX1_init_28 : decode cX1_init 28 = .ok (.iconst 3, 1) := by decide +kernel
theorem dX1_init_29 : decode cX1_init 29 = .ok (.newarray .int, 2) := by decide +kernel
theorem dX1_init_31 : decode cX1_init 31 = .ok (.putfield 22, 3) := by decide +kernel
theorem dX1_init_34 : decode cX1_init 34 = .ok (.aload_n 0, 1) := by decide +kernel
theorem dX1_init_35 : decode cX1_init 35 = .ok (.iconst 0, 1) := by decide +kernel
theorem dX1_init_36 : decode cX1_init 36 = .ok (.putfield 25, 3) := by decide +kernel
theorem dX1_init_39 : decode cX1_init 39 = .ok (.return_, 1) := by decide +kernel
theorem dX1_isEnd_0 : decode cX1_isEnd 0 = .ok (.iload_n 0, 1) := by decide +kernel
theorem dX1_isEnd_1 : decode cX1_isEnd 1 = .ok (.ifCond .lt 12, 3) := by decide +kernel
theorem dX1_isEnd_4 : decode cX1_isEnd 4 = .ok (.iload_n 0, 1) := by decide +kernel
theorem dX1_isEnd_5 : decode cX1_isEnd 5 = .ok (.iconst 2, 1) := by decide +kernel
theorem dX1_isEnd_6 : decode cX1_isEnd 6 = .ok (.if_icmp .gt 7, 3) := by decide +kernel
theorem dX1_isEnd_9 : decode cX1_isEnd 9 = .ok (.iconst 1, 1) := by decide +kernel
theorem dX1_isEnd_10 : decode cX1_isEnd 10 = .ok (.goto 4, 3) := by decide +kernel
theorem dX1_isEnd_13 : decode cX1_isEnd 13 = .ok (.iconst 0, 1) := by decide +kernel
theorem dX1_isEnd_14 : decode cX1_isEnd 14 = .ok (.ireturn, 1) := by decide +kernel
theorem dX1_isFull_0 : decode cX1_isFull 0 = .ok (.aload_n 0, 1) := by decide +kernel
theorem dX1_isFull_1 : decode cX1_isFull 1 = .ok (.getfield 25, 3) := by decide +kernel
theorem dX1_isFull_4 : decode cX1_isFull 4 = .ok (.bipush 100, 2) := by decide +kernel
theorem dX1_isFull_6 : decode cX1_isFull 6 = .ok (.if_icmp .lt 7, 3) := by decide +kernel
theorem dX1_isFull_9 : decode cX1_isFull 9 = .ok (.iconst 1, 1) := by decide +kernel
theorem dX1_isFull_10 : decode cX1_isFull 10 = .ok (.goto 4, 3) := by decide +kernel
theorem dX1_isFull_13 : decode cX1_isFull 13 = .ok (.iconst 0, 1) := by decide +kernel
theorem dX1_isFull_14 : decode cX1_isFull 14 = .ok (.ireturn, 1) := by decide +kernel
theorem dX1_write_0 : decode cX1_write 0 = .ok (.aload_n 0, 1) := by decide +kernel
theorem dX1_write_1 : decode cX1_write 1 = .ok (.invokevirtual 29, 3) := by decide +kernel
theorem dX1_write_4 : decode cX1_write 4 = .ok (.ifCond .ne 50, 3) := by decide +kernel
theorem dX1_write_7 : decode cX1_write 7 = .ok (.iload_n 3, 1) := by decide +kernel
theorem dX1_write_8 : decode cX1_write 8 = .ok (.invokestatic 33, 3) := by decide +kernel
theorem dX1_write_11 : decode cX1_write 11 = .ok (.ifCond .eq 43, 3) := by decide +kernel
theorem dX1_write_14 : decode cX1_write 14 = .ok (.aload_n 0, 1) := by decide +kernel
theorem dX1_write_15 : decode cX1_write 15 = .ok (.getfield 11, 3) := by decide +kernel
theorem dX1_write_18 : decode cX1_write 18 = .ok (.aload_n 0, 1) := by decide +kernel
theorem dX1_write_19 : decode cX1_write 19 = .ok (.getfield 25, 3) := by decide +kernel
theorem dX1_write_22 : decode cX1_write 22 = .ok (.lload_n 1, 1) := by decide +kernel
theorem dX1_write_23 : decode cX1_write 23 = .ok (.lastore, 1) := by decide +kernel
theorem dX1_write_24 : decode cX1_write 24 = .ok (.aload_n 0, 1) := by decide +kernel
theorem dX1_write_25 : decode cX1_write 25 = .ok (.getfield 15, 3) := by decide +kernel
theorem dX1_write_28 : decode cX1_write 28 = .ok (.aload_n 0, 1) := by decide +kernel
theorem dX1_write_29 : decode cX1_write 29 = .ok (.getfield 25, 3) := by decide +kernel
theorem dX1_write_32 : decode cX1_write 32 = .ok (.iload_n 3, 1) := by decide +kernel
theorem dX1_write_33 : decode cX1_write 33 = .ok (.iastore, 1) := by decide +kernel
theorem dX1_write_34 : decode cX1_write 34 = .ok (.aload_n 0, 1) := by decide +kernel
theorem dX1_write_35 : decode cX1_write 35 = .ok (.getfield 19, 3) := by decide +kernel
theorem dX1_write_38 : decode cX1_write 38 = .ok (.iload_n 3, 1) := by decide +kernel
theorem dX1_write_39 : decode cX1_write 39 = .ok (.dup2, 1) := by decide +kernel
theorem dX1_write_40 : decode cX1_write 40 = .ok (.iaload, 1) := by decide +kernel
theorem dX1_write_41 : decode cX1_write 41 = .ok (.iconst 1, 1) := by decide +kernel
theorem dX1_write_42 : decode cX1_write 42 = .ok (.iadd, 1) := by decide +kernel
theorem dX1_write_43 : decode cX1_write 43 = .ok (.iastore, 1) := by decide +kernel
theorem dX1_write_44 : decode cX1_write 44 = .ok (.aload_n 0, 1) := by decide +kernel
theorem dX1_write_45 : decode cX1_write 45 = .ok (.dup, 1) := by decide +kernel
theorem dX1_write_46 : decode cX1_write 46 = .ok (.getfield 25, 3) := by decide +kernel
theorem dX1_write_49 : decode cX1_write 49 = .ok (.iconst 1, 1) := by decide +kernel
theorem dX1_write_50 : decode cX1_write 50 = .ok (.iadd, 1) := by decide +kernel
theorem dX1_write_51 : decode cX1_write 51 = .ok (.putfield 25, 3) := by decide +kernel
theorem dX1_write_54 : decode cX1_write 54 = .ok (.return_, 1) := by decide +kernel
theorem dX1_holdAgainst_0 : decode cX1_holdAgainst 0 = .ok (.iconst 0, 1) := by decide +kernel
theorem dX1_holdAgainst_1 : decode cX1_holdAgainst 1 = .ok (.istore_n 3, 1) := by decide +kernel
theorem dX1_holdAgainst_2 : decode cX1_holdAgainst 2 = .ok (.iload_n 3, 1) := by decide +kernel
theorem dX1_holdAgainst_3 : decode cX1_holdAgainst 3 = .ok (.iconst 2, 1) := by decide +kernel
theorem dX1_holdAgainst_4 : decode cX1_holdAgainst 4 = .ok (.if_icmp .gt 16, 3) := by decide +kernel
theorem dX1_holdAgainst_7 : decode cX1_holdAgainst 7 = .ok (.aload_n 0, 1) := by decide +kernel
theorem dX1_holdAgainst_8 : decode cX1_holdAgainst 8 = .ok (.getfield 22, 3) := by decide +kernel
theorem dX1_holdAgainst_11 : decode cX1_holdAgainst 11 = .ok (.iload_n 3, 1) := by decide +kernel
theorem dX1_holdAgainst_12 : decode cX1_holdAgainst 12 = .ok (.iconst 0, 1) := by decide +kernel
theorem dX1_holdAgainst_13 : decode cX1_holdAgainst 13 = .ok (.iastore, 1) := by decide +kernel
theorem dX1_holdAgainst_14 : decode cX1_holdAgainst 14 = .ok (.iinc 3 1, 3) := by decide +kernel
theorem dX1_holdAgainst_17 : decode cX1_holdAgainst 17 = .ok (.goto (-15), 3) := by decide +kernel
theorem dX1_holdAgainst_20 : decode cX1_holdAgainst 20 = .ok (.iconst 0, 1) := by decide +kernel
theorem dX1_holdAgainst_21 : decode cX1_holdAgainst 21 = .ok (.istore_n 3, 1) := by decide +kernel
theorem dX1_holdAgainst_22 : decode cX1_holdAgainst 22 = .ok (.iload_n 3, 1) := by decide +kernel
theorem dX1_holdAgainst_23 : decode cX1_holdAgainst 23 = .ok (.aload_n 0, 1) := by decide +kernel
theorem dX1_holdAgainst_24 : decode cX1_holdAgainst 24 = .ok (.getfield 25, 3) := by decide +kernel
theorem dX1_holdAgainst_27 : decode cX1_holdAgainst 27 = .ok (.if_icmp .ge 50, 3) := by decide +kernel
theorem dX1_holdAgainst_30 : decode cX1_holdAgainst 30 = .ok (.aload_n 0, 1) := by decide +kernel
theorem dX1_holdAgainst_31 : decode cX1_holdAgainst 31 = .ok (.getfield 15, 3) := by decide +kernel
theorem dX1_holdAgainst_34 : decode cX1_holdAgainst 34 = .ok (.iload_n 3, 1) := by decide +kernel
theorem dX1_holdAgainst_35 : decode cX1_holdAgainst 35 = .ok (.iaload, 1) := by decide +kernel
theorem dX1_holdAgainst_36 : decode cX1_holdAgainst 36 = .ok (.invokestatic 33, 3) := by decide +kernel
theorem dX1_holdAgainst_39 : decode cX1_holdAgainst 39 = .ok (.ifCond .eq 32, 3) := by decide +kernel
theorem dX1_holdAgainst_42 : decode cX1_holdAgainst 42 = .ok (.aload_n 1, 1) := by decide +kernel
theorem dX1_holdAgainst_43 : decode cX1_holdAgainst 43 = .ok (.iload_n 2, 1) := by decide +kernel
theorem dX1_holdAgainst_44 : decode cX1_holdAgainst 44 = .ok (.aload_n 0, 1) := by decide +kernel
theorem dX1_holdAgainst_45 : decode cX1_holdAgainst 45 = .ok (.getfield 11, 3) := by decide +kernel
theorem dX1_holdAgainst_48 : decode cX1_holdAgainst 48 = .ok (.iload_n 3, 1) := by decide +kernel
theorem dX1_holdAgainst_49 : decode cX1_holdAgainst 49 = .ok (.laload, 1) := by decide +kernel
theorem dX1_holdAgainst_50 : decode cX1_holdAgainst 50 = .ok (.invokevirtual 37, 3) := by decide +kernel
theorem dX1_holdAgainst_53 : decode cX1_holdAgainst 53 = .ok (.ifCond .eq 18, 3) := by decide +kernel
theorem dX1_holdAgainst_56 : decode cX1_holdAgainst 56 = .ok (.aload_n 0, 1) := by decide +kernel
theorem dX1_holdAgainst_57 : decode cX1_holdAgainst 57 = .ok (.getfield 22, 3) := by decide +kernel
theorem dX1_holdAgainst_60 : decode cX1_holdAgainst 60 = .ok (.aload_n 0, 1) := by decide +kernel
theorem dX1_holdAgainst_61 : decode cX1_holdAgainst 61 = .ok (.getfield 15, 3) := by decide +kernel
theorem dX1_holdAgainst_64 : decode cX1_holdAgainst 64 = .ok (.iload_n 3, 1) := by decide +kernel
theorem dX1_holdAgainst_65 : decode cX1_holdAgainst 65 = .ok (.iaload, 1) := by decide +kernel
theorem dX1_holdAgainst_66 : decode cX1_holdAgainst 66 = .ok (.dup2, 1) := by decide +kernel
theorem dX1_holdAgainst_67 : decode cX1_holdAgainst 67 = .ok (.iaload, 1) := by decide +kernel
theorem dX1_holdAgainst_68 : decode cX1_holdAgainst 68 = .ok (.iconst 1, 1) := by decide +kernel
theorem dX1_holdAgainst_69 : decode cX1_holdAgainst 69 = .ok (.iadd, 1) := by decide +kernel
theorem dX1_holdAgainst_70 : decode cX1_holdAgainst 70 = .ok (.iastore, 1) := by decide +kernel
theorem dX1_holdAgainst_71 : decode cX1_holdAgainst 71 = .ok (.iinc 3 1, 3) := by decide +kernel
theorem dX1_holdAgainst_74 : decode cX1_holdAgainst 74 = .ok (.goto (-52), 3) := by decide +kernel
theorem dX1_holdAgainst_77 : decode cX1_holdAgainst 77 = .ok (.return_, 1) := by decide +kernel
theorem dX1_answerTo_0 : decode cX1_answerTo 0 = .ok (.iload_n 1, 1) := by decide +kernel
theorem dX1_answerTo_1 : decode cX1_answerTo 1 = .ok (.tableswitch 71 0 3 #[31, 52, 59, 66], 31) := by decide +kernel
theorem dX1_answerTo_32 : decode cX1_answerTo 32 = .ok (.aload_n 0, 1) := by decide +kernel
theorem dX1_answerTo_33 : decode cX1_answerTo 33 = .ok (.getfield 22, 3) := by decide +kernel
theorem dX1_answerTo_36 : decode cX1_answerTo 36 = .ok (.iconst 0, 1) := by decide +kernel
theorem dX1_answerTo_37 : decode cX1_answerTo 37 = .ok (.iaload, 1) := by decide +kernel
theorem dX1_answerTo_38 : decode cX1_answerTo 38 = .ok (.aload_n 0, 1) := by decide +kernel
theorem dX1_answerTo_39 : decode cX1_answerTo 39 = .ok (.getfield 22, 3) := by decide +kernel
theorem dX1_answerTo_42 : decode cX1_answerTo 42 = .ok (.iconst 1, 1) := by decide +kernel
theorem dX1_answerTo_43 : decode cX1_answerTo 43 = .ok (.iaload, 1) := by decide +kernel
theorem dX1_answerTo_44 : decode cX1_answerTo 44 = .ok (.iadd, 1) := by decide +kernel
theorem dX1_answerTo_45 : decode cX1_answerTo 45 = .ok (.aload_n 0, 1) := by decide +kernel
theorem dX1_answerTo_46 : decode cX1_answerTo 46 = .ok (.getfield 22, 3) := by decide +kernel
theorem dX1_answerTo_49 : decode cX1_answerTo 49 = .ok (.iconst 2, 1) := by decide +kernel
theorem dX1_answerTo_50 : decode cX1_answerTo 50 = .ok (.iaload, 1) := by decide +kernel
theorem dX1_answerTo_51 : decode cX1_answerTo 51 = .ok (.iadd, 1) := by decide +kernel
theorem dX1_answerTo_52 : decode cX1_answerTo 52 = .ok (.ireturn, 1) := by decide +kernel
theorem dX1_answerTo_53 : decode cX1_answerTo 53 = .ok (.aload_n 0, 1) := by decide +kernel
theorem dX1_answerTo_54 : decode cX1_answerTo 54 = .ok (.getfield 22, 3) := by decide +kernel
theorem dX1_answerTo_57 : decode cX1_answerTo 57 = .ok (.iconst 1, 1) := by decide +kernel
theorem dX1_answerTo_58 : decode cX1_answerTo 58 = .ok (.iaload, 1) := by decide +kernel
theorem dX1_answerTo_59 : decode cX1_answerTo 59 = .ok (.ireturn, 1) := by decide +kernel
theorem dX1_answerTo_60 : decode cX1_answerTo 60 = .ok (.aload_n 0, 1) := by decide +kernel
theorem dX1_answerTo_61 : decode cX1_answerTo 61 = .ok (.getfield 22, 3) := by decide +kernel
theorem dX1_answerTo_64 : decode cX1_answerTo 64 = .ok (.iconst 0, 1) := by decide +kernel
theorem dX1_answerTo_65 : decode cX1_answerTo 65 = .ok (.iaload, 1) := by decide +kernel
theorem dX1_answerTo_66 : decode cX1_answerTo 66 = .ok (.ireturn, 1) := by decide +kernel
theorem dX1_answerTo_67 : decode cX1_answerTo 67 = .ok (.aload_n 0, 1) := by decide +kernel
theorem dX1_answerTo_68 : decode cX1_answerTo 68 = .ok (.invokevirtual 43, 3) := by decide +kernel
theorem dX1_answerTo_71 : decode cX1_answerTo 71 = .ok (.ireturn, 1) := by decide +kernel
theorem dX1_answerTo_72 : decode cX1_answerTo 72 = .ok (.ldc 47, 2) := by decide +kernel
theorem dX1_answerTo_74 : decode cX1_answerTo 74 = .ok (.ireturn, 1) := by decide +kernel
theorem dX1_worthHeld_0 : decode cX1_worthHeld 0 = .ok (.aload_n 0, 1) := by decide +kernel
theorem dX1_worthHeld_1 : decode cX1_worthHeld 1 = .ok (.getfield 22, 3) := by decide +kernel
theorem dX1_worthHeld_4 : decode cX1_worthHeld 4 = .ok (.iconst 1, 1) := by decide +kernel
theorem dX1_worthHeld_5 : decode cX1_worthHeld 5 = .ok (.iaload, 1) := by decide +kernel
theorem dX1_worthHeld_6 : decode cX1_worthHeld 6 = .ok (.aload_n 0, 1) := by decide +kernel
theorem dX1_worthHeld_7 : decode cX1_worthHeld 7 = .ok (.invokevirtual 48, 3) := by decide +kernel
theorem dX1_worthHeld_10 : decode cX1_worthHeld 10 = .ok (.imul, 1) := by decide +kernel
theorem dX1_worthHeld_11 : decode cX1_worthHeld 11 = .ok (.aload_n 0, 1) := by decide +kernel
theorem dX1_worthHeld_12 : decode cX1_worthHeld 12 = .ok (.getfield 22, 3) := by decide +kernel
theorem dX1_worthHeld_15 : decode cX1_worthHeld 15 = .ok (.iconst 1, 1) := by decide +kernel
theorem dX1_worthHeld_16 : decode cX1_worthHeld 16 = .ok (.iaload, 1) := by decide +kernel
theorem dX1_worthHeld_17 : decode cX1_worthHeld 17 = .ok (.aload_n 0, 1) := by decide +kernel
theorem dX1_worthHeld_18 : decode cX1_worthHeld 18 = .ok (.getfield 22, 3) := by decide +kernel
theorem dX1_worthHeld_21 : decode cX1_worthHeld 21 = .ok (.iconst 0, 1) := by decide +kernel
theorem dX1_worthHeld_22 : decode cX1_worthHeld 22 = .ok (.iaload, 1) := by decide +kernel
theorem dX1_worthHeld_23 : decode cX1_worthHeld 23 = .ok (.iadd, 1) := by decide +kernel
theorem dX1_worthHeld_24 : decode cX1_worthHeld 24 = .ok (.aload_n 0, 1) := by decide +kernel
theorem dX1_worthHeld_25 : decode cX1_worthHeld 25 = .ok (.invokevirtual 51, 3) := by decide +kernel
theorem dX1_worthHeld_28 : decode cX1_worthHeld 28 = .ok (.imul, 1) := by decide +kernel
theorem dX1_worthHeld_29 : decode cX1_worthHeld 29 = .ok (.isub, 1) := by decide +kernel
theorem dX1_worthHeld_30 : decode cX1_worthHeld 30 = .ok (.ireturn, 1) := by decide +kernel
theorem dX1_casesKnown_0 : decode cX1_casesKnown 0 = .ok (.aload_n 0, 1) := by decide +kernel
theorem dX1_casesKnown_1 : decode cX1_casesKnown 1 = .ok (.getfield 19, 3) := by decide +kernel
theorem dX1_casesKnown_4 : decode cX1_casesKnown 4 = .ok (.iconst 0, 1) := by decide +kernel
theorem dX1_casesKnown_5 : decode cX1_casesKnown 5 = .ok (.iaload, 1) := by decide +kernel
theorem dX1_casesKnown_6 : decode cX1_casesKnown 6 = .ok (.aload_n 0, 1) := by decide +kernel
theorem dX1_casesKnown_7 : decode cX1_casesKnown 7 = .ok (.getfield 19, 3) := by decide +kernel
theorem dX1_casesKnown_10 : decode cX1_casesKnown 10 = .ok (.iconst 1, 1) := by decide +kernel
theorem dX1_casesKnown_11 : decode cX1_casesKnown 11 = .ok (.iaload, 1) := by decide +kernel
theorem dX1_casesKnown_12 : decode cX1_casesKnown 12 = .ok (.iadd, 1) := by decide +kernel
theorem dX1_casesKnown_13 : decode cX1_casesKnown 13 = .ok (.ireturn, 1) := by decide +kernel
theorem dX1_casesYes_0 : decode cX1_casesYes 0 = .ok (.aload_n 0, 1) := by decide +kernel
theorem dX1_casesYes_1 : decode cX1_casesYes 1 = .ok (.getfield 19, 3) := by decide +kernel
theorem dX1_casesYes_4 : decode cX1_casesYes 4 = .ok (.iconst 1, 1) := by decide +kernel
theorem dX1_casesYes_5 : decode cX1_casesYes 5 = .ok (.iaload, 1) := by decide +kernel
theorem dX1_casesYes_6 : decode cX1_casesYes 6 = .ok (.ireturn, 1) := by decide +kernel
theorem dX2_ofCode_0 : decode cX2_ofCode 0 = .ok (.iload_n 0, 1) := by decide +kernel
theorem dX2_ofCode_1 : decode cX2_ofCode 1 = .ok (.ldc 9, 2) := by decide +kernel
theorem dX2_ofCode_3 : decode cX2_ofCode 3 = .ok (.iand, 1) := by decide +kernel
theorem dX2_ofCode_4 : decode cX2_ofCode 4 = .ok (.i2l, 1) := by decide +kernel
theorem dX2_ofCode_5 : decode cX2_ofCode 5 = .ok (.lstore_n 1, 1) := by decide +kernel
theorem dX2_ofCode_6 : decode cX2_ofCode 6 = .ok (.iconst 0, 1) := by decide +kernel
theorem dX2_ofCode_7 : decode cX2_ofCode 7 = .ok (.istore_n 3, 1) := by decide +kernel
theorem dX2_ofCode_8 : decode cX2_ofCode 8 = .ok (.iload_n 3, 1) := by decide +kernel
theorem dX2_ofCode_9 : decode cX2_ofCode 9 = .ok (.iconst 4, 1) := by decide +kernel
theorem dX2_ofCode_10 : decode cX2_ofCode 10 = .ok (.if_icmp .ge 22, 3) := by decide +kernel
theorem dX2_ofCode_13 : decode cX2_ofCode 13 = .ok (.lload_n 1, 1) := by decide +kernel
theorem dX2_ofCode_14 : decode cX2_ofCode 14 = .ok (.iconst 4, 1) := by decide +kernel
theorem dX2_ofCode_15 : decode cX2_ofCode 15 = .ok (.iload_n 3, 1) := by decide +kernel
theorem dX2_ofCode_16 : decode cX2_ofCode 16 = .ok (.iadd, 1) := by decide +kernel
theorem dX2_ofCode_17 : decode cX2_ofCode 17 = .ok (.iload_n 0, 1) := by decide +kernel
theorem dX2_ofCode_18 : decode cX2_ofCode 18 = .ok (.iload_n 3, 1) := by decide +kernel
theorem dX2_ofCode_19 : decode cX2_ofCode 19 = .ok (.invokestatic 12, 3) := by decide +kernel
theorem dX2_ofCode_22 : decode cX2_ofCode 22 = .ok (.invokestatic 16, 3) := by decide +kernel
theorem dX2_ofCode_25 : decode cX2_ofCode 25 = .ok (.lstore_n 1, 1) := by decide +kernel
theorem dX2_ofCode_26 : decode cX2_ofCode 26 = .ok (.iinc 3 1, 3) := by decide +kernel
theorem dX2_ofCode_29 : decode cX2_ofCode 29 = .ok (.goto (-21), 3) := by decide +kernel
theorem dX2_ofCode_32 : decode cX2_ofCode 32 = .ok (.bipush 8, 2) := by decide +kernel
theorem dX2_ofCode_34 : decode cX2_ofCode 34 = .ok (.istore_n 3, 1) := by decide +kernel
theorem dX2_ofCode_35 : decode cX2_ofCode 35 = .ok (.iload_n 3, 1) := by decide +kernel
theorem dX2_ofCode_36 : decode cX2_ofCode 36 = .ok (.bipush 14, 2) := by decide +kernel
theorem dX2_ofCode_38 : decode cX2_ofCode 38 = .ok (.if_icmp .gt 36, 3) := by decide +kernel
theorem dX2_ofCode_41 : decode cX2_ofCode 41 = .ok (.iload_n 3, 1) := by decide +kernel
theorem dX2_ofCode_42 : decode cX2_ofCode 42 = .ok (.invokestatic 20, 3) := by decide +kernel
theorem dX2_ofCode_45 : decode cX2_ofCode 45 = .ok (.istore 4, 2) := by decide +kernel
theorem dX2_ofCode_47 : decode cX2_ofCode 47 = .ok (.lload_n 1, 1) := by decide +kernel
theorem dX2_ofCode_48 : decode cX2_ofCode 48 = .ok (.iload_n 3, 1) := by decide +kernel
theorem dX2_ofCode_49 : decode cX2_ofCode 49 = .ok (.lload_n 1, 1) := by decide +kernel
theorem dX2_ofCode_50 : decode cX2_ofCode 50 = .ok (.iload 4, 2) := by decide +kernel
theorem dX2_ofCode_52 : decode cX2_ofCode 52 = .ok (.invokestatic 24, 3) := by decide +kernel
theorem dX2_ofCode_55 : decode cX2_ofCode 55 = .ok (.lload_n 1, 1) := by decide +kernel
theorem dX2_ofCode_56 : decode cX2_ofCode 56 = .ok (.iload 4, 2) := by decide +kernel
theorem dX2_ofCode_58 : decode cX2_ofCode 58 = .ok (.iconst 1, 1) := by decide +kernel
theorem dX2_ofCode_59 : decode cX2_ofCode 59 = .ok (.iadd, 1) := by decide +kernel
theorem dX2_ofCode_60 : decode cX2_ofCode 60 = .ok (.invokestatic 24, 3) := by decide +kernel
theorem dX2_ofCode_63 : decode cX2_ofCode 63 = .ok (.ixor, 1) := by decide +kernel
theorem dX2_ofCode_64 : decode cX2_ofCode 64 = .ok (.invokestatic 16, 3) := by decide +kernel
theorem dX2_ofCode_67 : decode cX2_ofCode 67 = .ok (.lstore_n 1, 1) := by decide +kernel
theorem dX2_ofCode_68 : decode cX2_ofCode 68 = .ok (.iinc 3 1, 3) := by decide +kernel
theorem dX2_ofCode_71 : decode cX2_ofCode 71 = .ok (.goto (-36), 3) := by decide +kernel
theorem dX2_ofCode_74 : decode cX2_ofCode 74 = .ok (.lload_n 1, 1) := by decide +kernel
theorem dX2_ofCode_75 : decode cX2_ofCode 75 = .ok (.bipush 15, 2) := by decide +kernel
theorem dX2_ofCode_77 : decode cX2_ofCode 77 = .ok (.lload_n 1, 1) := by decide +kernel
theorem dX2_ofCode_78 : decode cX2_ofCode 78 = .ok (.bipush 14, 2) := by decide +kernel
theorem dX2_ofCode_80 : decode cX2_ofCode 80 = .ok (.invokestatic 24, 3) := by decide +kernel
theorem dX2_ofCode_83 : decode cX2_ofCode 83 = .ok (.lload_n 1, 1) := by decide +kernel
theorem dX2_ofCode_84 : decode cX2_ofCode 84 = .ok (.iconst 0, 1) := by decide +kernel
theorem dX2_ofCode_85 : decode cX2_ofCode 85 = .ok (.invokestatic 24, 3) := by decide +kernel
theorem dX2_ofCode_88 : decode cX2_ofCode 88 = .ok (.ixor, 1) := by decide +kernel
theorem dX2_ofCode_89 : decode cX2_ofCode 89 = .ok (.invokestatic 16, 3) := by decide +kernel
theorem dX2_ofCode_92 : decode cX2_ofCode 92 = .ok (.lreturn, 1) := by decide +kernel
theorem dX2_daughterOf_0 : decode cX2_daughterOf 0 = .ok (.iconst 0, 1) := by decide +kernel
theorem dX2_daughterOf_1 : decode cX2_daughterOf 1 = .ok (.istore_n 2, 1) := by decide +kernel
theorem dX2_daughterOf_2 : decode cX2_daughterOf 2 = .ok (.iconst 0, 1) := by decide +kernel
theorem dX2_daughterOf_3 : decode cX2_daughterOf 3 = .ok (.istore_n 3, 1) := by decide +kernel
theorem dX2_daughterOf_4 : decode cX2_daughterOf 4 = .ok (.iload_n 3, 1) := by decide +kernel
theorem dX2_daughterOf_5 : decode cX2_daughterOf 5 = .ok (.iconst 4, 1) := by decide +kernel
theorem dX2_daughterOf_6 : decode cX2_daughterOf 6 = .ok (.if_icmp .ge 23, 3) := by decide +kernel
theorem dX2_daughterOf_9 : decode cX2_daughterOf 9 = .ok (.iload_n 2, 1) := by decide +kernel
theorem dX2_daughterOf_10 : decode cX2_daughterOf 10 = .ok (.iload_n 0, 1) := by decide +kernel
theorem dX2_daughterOf_11 : decode cX2_daughterOf 11 = .ok (.iconst 4, 1) := by decide +kernel
theorem dX2_daughterOf_12 : decode cX2_daughterOf 12 = .ok (.iload_n 3, 1) := by decide +kernel
theorem dX2_daughterOf_13 : decode cX2_daughterOf 13 = .ok (.imul, 1) := by decide +kernel
theorem dX2_daughterOf_14 : decode cX2_daughterOf 14 = .ok (.iload_n 1, 1) := by decide +kernel
theorem dX2_daughterOf_15 : decode cX2_daughterOf 15 = .ok (.iadd, 1) := by decide +kernel
theorem dX2_daughterOf_16 : decode cX2_daughterOf 16 = .ok (.ishr, 1) := by decide +kernel
theorem dX2_daughterOf_17 : decode cX2_daughterOf 17 = .ok (.iconst 1, 1) := by decide +kernel
theorem dX2_daughterOf_18 : decode cX2_daughterOf 18 = .ok (.iand, 1) := by decide +kernel
theorem dX2_daughterOf_19 : decode cX2_daughterOf 19 = .ok (.iload_n 3, 1) := by decide +kernel
theorem dX2_daughterOf_20 : decode cX2_daughterOf 20 = .ok (.ishl, 1) := by decide +kernel
theorem dX2_daughterOf_21 : decode cX2_daughterOf 21 = .ok (.ior, 1) := by decide +kernel
theorem dX2_daughterOf_22 : decode cX2_daughterOf 22 = .ok (.istore_n 2, 1) := by decide +kernel
theorem dX2_daughterOf_23 : decode cX2_daughterOf 23 = .ok (.iinc 3 1, 3) := by decide +kernel
theorem dX2_daughterOf_26 : decode cX2_daughterOf 26 = .ok (.goto (-22), 3) := by decide +kernel
theorem dX2_daughterOf_29 : decode cX2_daughterOf 29 = .ok (.iload_n 2, 1) := by decide +kernel
theorem dX2_daughterOf_30 : decode cX2_daughterOf 30 = .ok (.ireturn, 1) := by decide +kernel
theorem dX2_figureAt_0 : decode cX2_figureAt 0 = .ok (.lload_n 0, 1) := by decide +kernel
theorem dX2_figureAt_1 : decode cX2_figureAt 1 = .ok (.iconst 4, 1) := by decide +kernel
theorem dX2_figureAt_2 : decode cX2_figureAt 2 = .ok (.iload_n 2, 1) := by decide +kernel
theorem dX2_figureAt_3 : decode cX2_figureAt 3 = .ok (.imul, 1) := by decide +kernel
theorem dX2_figureAt_4 : decode cX2_figureAt 4 = .ok (.lushr, 1) := by decide +kernel
theorem dX2_figureAt_5 : decode cX2_figureAt 5 = .ok (.l2i, 1) := by decide +kernel
theorem dX2_figureAt_6 : decode cX2_figureAt 6 = .ok (.bipush 15, 2) := by decide +kernel
theorem dX2_figureAt_8 : decode cX2_figureAt 8 = .ok (.iand, 1) := by decide +kernel
theorem dX2_figureAt_9 : decode cX2_figureAt 9 = .ok (.ireturn, 1) := by decide +kernel
theorem dX2_withFigure_0 : decode cX2_withFigure 0 = .ok (.lload_n 0, 1) := by decide +kernel
theorem dX2_withFigure_1 : decode cX2_withFigure 1 = .ok (.iload_n 3, 1) := by decide +kernel
theorem dX2_withFigure_2 : decode cX2_withFigure 2 = .ok (.i2l, 1) := by decide +kernel
theorem dX2_withFigure_3 : decode cX2_withFigure 3 = .ok (.iconst 4, 1) := by decide +kernel
theorem dX2_withFigure_4 : decode cX2_withFigure 4 = .ok (.iload_n 2, 1) := by decide +kernel
theorem dX2_withFigure_5 : decode cX2_withFigure 5 = .ok (.imul, 1) := by decide +kernel
theorem dX2_withFigure_6 : decode cX2_withFigure 6 = .ok (.lshl, 1) := by decide +kernel
theorem dX2_withFigure_7 : decode cX2_withFigure 7 = .ok (.lor, 1) := by decide +kernel
theorem dX2_withFigure_8 : decode cX2_withFigure 8 = .ok (.lreturn, 1) := by decide +kernel
theorem dX2_firstAbove_0 : decode cX2_firstAbove 0 = .ok (.iconst 2, 1) := by decide +kernel
theorem dX2_firstAbove_1 : decode cX2_firstAbove 1 = .ok (.iload_n 0, 1) := by decide +kernel
theorem dX2_firstAbove_2 : decode cX2_firstAbove 2 = .ok (.bipush 8, 2) := by decide +kernel
theorem dX2_firstAbove_4 : decode cX2_firstAbove 4 = .ok (.isub, 1) := by decide +kernel
theorem dX2_firstAbove_5 : decode cX2_firstAbove 5 = .ok (.imul, 1) := by decide +kernel
theorem dX2_firstAbove_6 : decode cX2_firstAbove 6 = .ok (.ireturn, 1) := by decide +kernel
theorem dX2_timesSeen_0 : decode cX2_timesSeen 0 = .ok (.iconst 0, 1) := by decide +kernel
theorem dX2_timesSeen_1 : decode cX2_timesSeen 1 = .ok (.istore 5, 2) := by decide +kernel
theorem dX2_timesSeen_3 : decode cX2_timesSeen 3 = .ok (.iload_n 3, 1) := by decide +kernel
theorem dX2_timesSeen_4 : decode cX2_timesSeen 4 = .ok (.istore 6, 2) := by decide +kernel
theorem dX2_timesSeen_6 : decode cX2_timesSeen 6 = .ok (.iload 6, 2) := by decide +kernel
theorem dX2_timesSeen_8 : decode cX2_timesSeen 8 = .ok (.iload 4, 2) := by decide +kernel
theorem dX2_timesSeen_10 : decode cX2_timesSeen 10 = .ok (.if_icmp .gt 22, 3) := by decide +kernel
theorem dX2_timesSeen_13 : decode cX2_timesSeen 13 = .ok (.lload_n 0, 1) := by decide +kernel
theorem dX2_timesSeen_14 : decode cX2_timesSeen 14 = .ok (.iload 6, 2) := by decide +kernel
theorem dX2_timesSeen_16 : decode cX2_timesSeen 16 = .ok (.invokestatic 24, 3) := by decide +kernel
theorem dX2_timesSeen_19 : decode cX2_timesSeen 19 = .ok (.iload_n 2, 1) := by decide +kernel
theorem dX2_timesSeen_20 : decode cX2_timesSeen 20 = .ok (.if_icmp .ne 6, 3) := by decide +kernel
theorem dX2_timesSeen_23 : decode cX2_timesSeen 23 = .ok (.iinc 5 1, 3) := by decide +kernel
theorem dX2_timesSeen_26 : decode cX2_timesSeen 26 = .ok (.iinc 6 1, 3) := by decide +kernel
theorem dX2_timesSeen_29 : decode cX2_timesSeen 29 = .ok (.goto (-23), 3) := by decide +kernel
theorem dX2_timesSeen_32 : decode cX2_timesSeen 32 = .ok (.iload 5, 2) := by decide +kernel
theorem dX2_timesSeen_34 : decode cX2_timesSeen 34 = .ok (.ireturn, 1) := by decide +kernel
theorem dX2_endsOfPoint_0 : decode cX2_endsOfPoint 0 = .ok (.sipush 16384, 3) := by decide +kernel
theorem dX2_endsOfPoint_3 : decode cX2_endsOfPoint 3 = .ok (.istore_n 2, 1) := by decide +kernel
theorem dX2_endsOfPoint_4 : decode cX2_endsOfPoint 4 = .ok (.iconst 0, 1) := by decide +kernel
theorem dX2_endsOfPoint_5 : decode cX2_endsOfPoint 5 = .ok (.istore_n 3, 1) := by decide +kernel
theorem dX2_endsOfPoint_6 : decode cX2_endsOfPoint 6 = .ok (.bipush 14, 2) := by decide +kernel
theorem dX2_endsOfPoint_8 : decode cX2_endsOfPoint 8 = .ok (.istore 4, 2) := by decide +kernel
theorem dX2_endsOfPoint_10 : decode cX2_endsOfPoint 10 = .ok (.iload 4, 2) := by decide +kernel
theorem dX2_endsOfPoint_12 : decode cX2_endsOfPoint 12 = .ok (.ifCond .lt 46, 3) := by decide +kernel
theorem dX2_endsOfPoint_15 : decode cX2_endsOfPoint 15 = .ok (.iload_n 2, 1) := by decide +kernel
theorem dX2_endsOfPoint_16 : decode cX2_endsOfPoint 16 = .ok (.iload 4, 2) := by decide +kernel
theorem dX2_endsOfPoint_18 : decode cX2_endsOfPoint 18 = .ok (.ishr, 1) := by decide +kernel
theorem dX2_endsOfPoint_19 : decode cX2_endsOfPoint 19 = .ok (.iconst 1, 1) := by decide +kernel
theorem dX2_endsOfPoint_20 : decode cX2_endsOfPoint 20 = .ok (.iand, 1) := by decide +kernel
theorem dX2_endsOfPoint_21 : decode cX2_endsOfPoint 21 = .ok (.ifCond .ne 6, 3) := by decide +kernel
theorem dX2_endsOfPoint_24 : decode cX2_endsOfPoint 24 = .ok (.goto 28, 3) := by decide +kernel
theorem dX2_endsOfPoint_27 : decode cX2_endsOfPoint 27 = .ok (.lload_n 0, 1) := by decide +kernel
theorem dX2_endsOfPoint_28 : decode cX2_endsOfPoint 28 = .ok (.iload 4, 2) := by decide +kernel
theorem dX2_endsOfPoint_30 : decode cX2_endsOfPoint 30 = .ok (.invokestatic 30, 3) := by decide +kernel
theorem dX2_endsOfPoint_33 : decode cX2_endsOfPoint 33 = .ok (.istore 5, 2) := by decide +kernel
theorem dX2_endsOfPoint_35 : decode cX2_endsOfPoint 35 = .ok (.iload_n 2, 1) := by decide +kernel
theorem dX2_endsOfPoint_36 : decode cX2_endsOfPoint 36 = .ok (.iload 5, 2) := by decide +kernel
theorem dX2_endsOfPoint_38 : decode cX2_endsOfPoint 38 = .ok (.ior, 1) := by decide +kernel
theorem dX2_endsOfPoint_39 : decode cX2_endsOfPoint 39 = .ok (.istore_n 2, 1) := by decide +kernel
theorem dX2_endsOfPoint_40 : decode cX2_endsOfPoint 40 = .ok (.iload 5, 2) := by decide +kernel
theorem dX2_endsOfPoint_42 : decode cX2_endsOfPoint 42 = .ok (.ifCond .ne 10, 3) := by decide +kernel
theorem dX2_endsOfPoint_45 : decode cX2_endsOfPoint 45 = .ok (.iload_n 3, 1) := by decide +kernel
theorem dX2_endsOfPoint_46 : decode cX2_endsOfPoint 46 = .ok (.iconst 1, 1) := by decide +kernel
theorem dX2_endsOfPoint_47 : decode cX2_endsOfPoint 47 = .ok (.iload 4, 2) := by decide +kernel
theorem dX2_endsOfPoint_49 : decode cX2_endsOfPoint 49 = .ok (.ishl, 1) := by decide +kernel
theorem dX2_endsOfPoint_50 : decode cX2_endsOfPoint 50 = .ok (.ior, 1) := by decide +kernel
theorem dX2_endsOfPoint_51 : decode cX2_endsOfPoint 51 = .ok (.istore_n 3, 1) := by decide +kernel
theorem dX2_endsOfPoint_52 : decode cX2_endsOfPoint 52 = .ok (.iinc 4 (-1), 3) := by decide +kernel
theorem dX2_endsOfPoint_55 : decode cX2_endsOfPoint 55 = .ok (.goto (-45), 3) := by decide +kernel
theorem dX2_endsOfPoint_58 : decode cX2_endsOfPoint 58 = .ok (.iload_n 3, 1) := by decide +kernel
theorem dX2_endsOfPoint_59 : decode cX2_endsOfPoint 59 = .ok (.ireturn, 1) := by decide +kernel
theorem dX2_wayUp_0 : decode cX2_wayUp 0 = .ok (.iconst 0, 1) := by decide +kernel
theorem dX2_wayUp_1 : decode cX2_wayUp 1 = .ok (.istore_n 3, 1) := by decide +kernel
theorem dX2_wayUp_2 : decode cX2_wayUp 2 = .ok (.iload_n 2, 1) := by decide +kernel
theorem dX2_wayUp_3 : decode cX2_wayUp 3 = .ok (.bipush 8, 2) := by decide +kernel
theorem dX2_wayUp_5 : decode cX2_wayUp 5 = .ok (.if_icmp .lt 50, 3) := by decide +kernel
theorem dX2_wayUp_8 : decode cX2_wayUp 8 = .ok (.iload_n 2, 1) := by decide +kernel
theorem dX2_wayUp_9 : decode cX2_wayUp 9 = .ok (.invokestatic 20, 3) := by decide +kernel
theorem dX2_wayUp_12 : decode cX2_wayUp 12 = .ok (.istore 4, 2) := by decide +kernel
theorem dX2_wayUp_14 : decode cX2_wayUp 14 = .ok (.iload 4, 2) := by decide +kernel
theorem dX2_wayUp_16 : decode cX2_wayUp 16 = .ok (.iload_n 2, 1) := by decide +kernel
theorem dX2_wayUp_17 : decode cX2_wayUp 17 = .ok (.invokestatic 20, 3) := by decide +kernel
theorem dX2_wayUp_20 : decode cX2_wayUp 20 = .ok (.iconst 1, 1) := by decide +kernel
theorem dX2_wayUp_21 : decode cX2_wayUp 21 = .ok (.iadd, 1) := by decide +kernel
theorem dX2_wayUp_22 : decode cX2_wayUp 22 = .ok (.if_icmp .gt 33, 3) := by decide +kernel
theorem dX2_wayUp_25 : decode cX2_wayUp 25 = .ok (.lload_n 0, 1) := by decide +kernel
theorem dX2_wayUp_26 : decode cX2_wayUp 26 = .ok (.iload 4, 2) := by decide +kernel
theorem dX2_wayUp_28 : decode cX2_wayUp 28 = .ok (.invokestatic 24, 3) := by decide +kernel
theorem dX2_wayUp_31 : decode cX2_wayUp 31 = .ok (.lload_n 0, 1) := by decide +kernel
theorem dX2_wayUp_32 : decode cX2_wayUp 32 = .ok (.iload_n 2, 1) := by decide +kernel
theorem dX2_wayUp_33 : decode cX2_wayUp 33 = .ok (.invokestatic 24, 3) := by decide +kernel
theorem dX2_wayUp_36 : decode cX2_wayUp 36 = .ok (.ixor, 1) := by decide +kernel
theorem dX2_wayUp_37 : decode cX2_wayUp 37 = .ok (.iconst 1, 1) := by decide +kernel
theorem dX2_wayUp_38 : decode cX2_wayUp 38 = .ok (.iand, 1) := by decide +kernel
theorem dX2_wayUp_39 : decode cX2_wayUp 39 = .ok (.ifCond .ne 10, 3) := by decide +kernel
theorem dX2_wayUp_42 : decode cX2_wayUp 42 = .ok (.iload_n 3, 1) := by decide +kernel
theorem dX2_wayUp_43 : decode cX2_wayUp 43 = .ok (.iconst 1, 1) := by decide +kernel
theorem dX2_wayUp_44 : decode cX2_wayUp 44 = .ok (.iload 4, 2) := by decide +kernel
theorem dX2_wayUp_46 : decode cX2_wayUp 46 = .ok (.ishl, 1) := by decide +kernel
theorem dX2_wayUp_47 : decode cX2_wayUp 47 = .ok (.ior, 1) := by decide +kernel
theorem dX2_wayUp_48 : decode cX2_wayUp 48 = .ok (.istore_n 3, 1) := by decide +kernel
theorem dX2_wayUp_49 : decode cX2_wayUp 49 = .ok (.iinc 4 1, 3) := by decide +kernel
theorem dX2_wayUp_52 : decode cX2_wayUp 52 = .ok (.goto (-38), 3) := by decide +kernel
theorem dX2_wayUp_55 : decode cX2_wayUp 55 = .ok (.iload_n 3, 1) := by decide +kernel
theorem dX2_wayUp_56 : decode cX2_wayUp 56 = .ok (.ireturn, 1) := by decide +kernel
theorem dX3_isFigure_0 : decode cX3_isFigure 0 = .ok (.iload_n 0, 1) := by decide +kernel
theorem dX3_isFigure_1 : decode cX3_isFigure 1 = .ok (.ifCond .lt 13, 3) := by decide +kernel
theorem dX3_isFigure_4 : decode cX3_isFigure 4 = .ok (.iload_n 0, 1) := by decide +kernel
theorem dX3_isFigure_5 : decode cX3_isFigure 5 = .ok (.bipush 15, 2) := by decide +kernel
theorem dX3_isFigure_7 : decode cX3_isFigure 7 = .ok (.if_icmp .gt 7, 3) := by decide +kernel
theorem dX3_isFigure_10 : decode cX3_isFigure 10 = .ok (.iconst 1, 1) := by decide +kernel
theorem dX3_isFigure_11 : decode cX3_isFigure 11 = .ok (.goto 4, 3) := by decide +kernel
theorem dX3_isFigure_14 : decode cX3_isFigure 14 = .ok (.iconst 0, 1) := by decide +kernel
theorem dX3_isFigure_15 : decode cX3_isFigure 15 = .ok (.ireturn, 1) := by decide +kernel
theorem dX3_dots_0 : decode cX3_dots 0 = .ok (.bipush 8, 2) := by decide +kernel
theorem dX3_dots_2 : decode cX3_dots 2 = .ok (.iload_n 0, 1) := by decide +kernel
theorem dX3_dots_3 : decode cX3_dots 3 = .ok (.invokestatic 9, 3) := by decide +kernel
theorem dX3_dots_6 : decode cX3_dots 6 = .ok (.isub, 1) := by decide +kernel
theorem dX3_dots_7 : decode cX3_dots 7 = .ok (.ireturn, 1) := by decide +kernel
theorem dX3_isEven_0 : decode cX3_isEven 0 = .ok (.iload_n 0, 1) := by decide +kernel
theorem dX3_isEven_1 : decode cX3_isEven 1 = .ok (.invokestatic 9, 3) := by decide +kernel
theorem dX3_isEven_4 : decode cX3_isEven 4 = .ok (.iconst 2, 1) := by decide +kernel
theorem dX3_isEven_5 : decode cX3_isEven 5 = .ok (.irem, 1) := by decide +kernel
theorem dX3_isEven_6 : decode cX3_isEven 6 = .ok (.ifCond .ne 7, 3) := by decide +kernel
theorem dX3_isEven_9 : decode cX3_isEven 9 = .ok (.iconst 1, 1) := by decide +kernel
theorem dX3_isEven_10 : decode cX3_isEven 10 = .ok (.goto 4, 3) := by decide +kernel
theorem dX3_isEven_13 : decode cX3_isEven 13 = .ok (.iconst 0, 1) := by decide +kernel
theorem dX3_isEven_14 : decode cX3_isEven 14 = .ok (.ireturn, 1) := by decide +kernel
theorem dX3_toldKind_0 : decode cX3_toldKind 0 = .ok (.iload_n 0, 1) := by decide +kernel
theorem dX3_toldKind_1 : decode cX3_toldKind 1 = .ok (.invokestatic 15, 3) := by decide +kernel
theorem dX3_toldKind_4 : decode cX3_toldKind 4 = .ok (.ifCond .ne 5, 3) := by decide +kernel
theorem dX3_toldKind_7 : decode cX3_toldKind 7 = .ok (.iconst 3, 1) := by decide +kernel
theorem dX3_toldKind_8 : decode cX3_toldKind 8 = .ok (.ireturn, 1) := by decide +kernel
theorem dX3_toldKind_9 : decode cX3_toldKind 9 = .ok (.iload_n 0, 1) := by decide +kernel
theorem dX3_toldKind_10 : decode cX3_toldKind 10 = .ok (.iconst 0, 1) := by decide +kernel
theorem dX3_toldKind_11 : decode cX3_toldKind 11 = .ok (.invokestatic 19, 3) := by decide +kernel
theorem dX3_toldKind_14 : decode cX3_toldKind 14 = .ok (.iload_n 0, 1) := by decide +kernel
theorem dX3_toldKind_15 : decode cX3_toldKind 15 = .ok (.iconst 3, 1) := by decide +kernel
theorem dX3_toldKind_16 : decode cX3_toldKind 16 = .ok (.invokestatic 19, 3) := by decide +kernel
theorem dX3_toldKind_19 : decode cX3_toldKind 19 = .ok (.if_icmp .ne 20, 3) := by decide +kernel
theorem dX3_toldKind_22 : decode cX3_toldKind 22 = .ok (.iload_n 0, 1) := by decide +kernel
theorem dX3_toldKind_23 : decode cX3_toldKind 23 = .ok (.iconst 1, 1) := by decide +kernel
theorem dX3_toldKind_24 : decode cX3_toldKind 24 = .ok (.invokestatic 19, 3) := by decide +kernel
theorem dX3_toldKind_27 : decode cX3_toldKind 27 = .ok (.iload_n 0, 1) := by decide +kernel
theorem dX3_toldKind_28 : decode cX3_toldKind 28 = .ok (.iconst 2, 1) := by decide +kernel
theorem dX3_toldKind_29 : decode cX3_toldKind 29 = .ok (.invokestatic 19, 3) := by decide +kernel
theorem dX3_toldKind_32 : decode cX3_toldKind 32 = .ok (.if_icmp .ne 7, 3) := by decide +kernel
theorem dX3_toldKind_35 : decode cX3_toldKind 35 = .ok (.iconst 2, 1) := by decide +kernel
theorem dX3_toldKind_36 : decode cX3_toldKind 36 = .ok (.goto 4, 3) := by decide +kernel
theorem dX3_toldKind_39 : decode cX3_toldKind 39 = .ok (.iconst 1, 1) := by decide +kernel
theorem dX3_toldKind_40 : decode cX3_toldKind 40 = .ok (.ireturn, 1) := by decide +kernel
theorem dX3_isOfKind_0 : decode cX3_isOfKind 0 = .ok (.iload_n 0, 1) := by decide +kernel
theorem dX3_isOfKind_1 : decode cX3_isOfKind 1 = .ok (.invokestatic 23, 3) := by decide +kernel
theorem dX3_isOfKind_4 : decode cX3_isOfKind 4 = .ok (.istore_n 2, 1) := by decide +kernel
theorem dX3_isOfKind_5 : decode cX3_isOfKind 5 = .ok (.iload_n 1, 1) := by decide +kernel
theorem dX3_isOfKind_6 : decode cX3_isOfKind 6 = .ok (.ifCond .eq 18, 3) := by decide +kernel
theorem dX3_isOfKind_9 : decode cX3_isOfKind 9 = .ok (.iload_n 1, 1) := by decide +kernel
theorem dX3_isOfKind_10 : decode cX3_isOfKind 10 = .ok (.iload_n 2, 1) := by decide +kernel
theorem dX3_isOfKind_11 : decode cX3_isOfKind 11 = .ok (.if_icmp .eq 13, 3) := by decide +kernel
theorem dX3_isOfKind_14 : decode cX3_isOfKind 14 = .ok (.iload_n 1, 1) := by decide +kernel
theorem dX3_isOfKind_15 : decode cX3_isOfKind 15 = .ok (.iconst 1, 1) := by decide +kernel
theorem dX3_isOfKind_16 : decode cX3_isOfKind 16 = .ok (.if_icmp .ne 12, 3) := by decide +kernel
theorem dX3_isOfKind_19 : decode cX3_isOfKind 19 = .ok (.iload_n 2, 1) := by decide +kernel
theorem dX3_isOfKind_20 : decode cX3_isOfKind 20 = .ok (.iconst 2, 1) := by decide +kernel
theorem dX3_isOfKind_21 : decode cX3_isOfKind 21 = .ok (.if_icmp .ne 7, 3) := by decide +kernel
theorem dX3_isOfKind_24 : decode cX3_isOfKind 24 = .ok (.iconst 1, 1) := by decide +kernel
theorem dX3_isOfKind_25 : decode cX3_isOfKind 25 = .ok (.goto 4, 3) := by decide +kernel
theorem dX3_isOfKind_28 : decode cX3_isOfKind 28 = .ok (.iconst 0, 1) := by decide +kernel
theorem dX3_isOfKind_29 : decode cX3_isOfKind 29 = .ok (.ireturn, 1) := by decide +kernel
theorem dX3_row_0 : decode cX3_row 0 = .ok (.iload_n 0, 1) := by decide +kernel
theorem dX3_row_1 : decode cX3_row 1 = .ok (.iload_n 1, 1) := by decide +kernel
theorem dX3_row_2 : decode cX3_row 2 = .ok (.ishr, 1) := by decide +kernel
theorem dX3_row_3 : decode cX3_row 3 = .ok (.iconst 1, 1) := by decide +kernel
theorem dX3_row_4 : decode cX3_row 4 = .ok (.iand, 1) := by decide +kernel
theorem dX3_row_5 : decode cX3_row 5 = .ok (.ireturn, 1) := by decide +kernel
theorem dX4_init_0 : decode cX4_init 0 = .ok (.aload_n 0, 1) := by decide +kernel
theorem dX4_init_1 : decode cX4_init 1 = .ok (.invokespecial 3, 3) := by decide +kernel
theorem dX4_init_4 : decode cX4_init 4 = .ok (.aload_n 0, 1) := by decide +kernel
theorem dX4_init_5 : decode cX4_init 5 = .ok (.sipush 256, 3) := by decide +kernel
theorem dX4_init_8 : decode cX4_init 8 = .ok (.newarray .long, 2) := by decide +kernel
theorem dX4_init_10 : decode cX4_init 10 = .ok (.putfield 11, 3) := by decide +kernel
theorem dX4_init_13 : decode cX4_init 13 = .ok (.aload_n 0, 1) := by decide +kernel
theorem dX4_init_14 : decode cX4_init 14 = .ok (.sipush 256, 3) := by decide +kernel
theorem dX4_init_17 : decode cX4_init 17 = .ok (.newarray .long, 2) := by decide +kernel
theorem dX4_init_19 : decode cX4_init 19 = .ok (.putfield 15, 3) := by decide +kernel
theorem dX4_init_22 : decode cX4_init 22 = .ok (.aload_n 0, 1) := by decide +kernel
theorem dX4_init_23 : decode cX4_init 23 = .ok (.iconst 0, 1) := by decide +kernel
theorem dX4_init_24 : decode cX4_init 24 = .ok (.putfield 18, 3) := by decide +kernel
theorem dX4_init_27 : decode cX4_init 27 = .ok (.aload_n 0, 1) := by decide +kernel
theorem dX4_init_28 : decode cX4_init 28 = .ok (.lconst 0, 1) := by decide +kernel
theorem dX4_init_29 : decode cX4_init 29 = .ok (.putfield 22, 3) := by decide +kernel
theorem dX4_init_32 : decode cX4_init 32 = .ok (.aload_n 0, 1) := by decide +kernel
theorem dX4_init_33 : decode cX4_init 33 = .ok (.lconst 0, 1) := by decide +kernel
theorem dX4_init_34 : decode cX4_init 34 = .ok (.putfield 26, 3) := by decide +kernel
theorem dX4_init_37 : decode cX4_init 37 = .ok (.aload_n 0, 1) := by decide +kernel
theorem dX4_init_38 : decode cX4_init 38 = .ok (.iconst 0, 1) := by decide +kernel
theorem dX4_init_39 : decode cX4_init 39 = .ok (.putfield 29, 3) := by decide +kernel
theorem dX4_init_42 : decode cX4_init 42 = .ok (.aload_n 0, 1) := by decide +kernel
theorem dX4_init_43 : decode cX4_init 43 = .ok (.iconst 0, 1) := by decide +kernel
theorem dX4_init_44 : decode cX4_init 44 = .ok (.putfield 33, 3) := by decide +kernel
theorem dX4_init_47 : decode cX4_init 47 = .ok (.aload_n 0, 1) := by decide +kernel
theorem dX4_init_48 : decode cX4_init 48 = .ok (.iconst 0, 1) := by decide +kernel
theorem dX4_init_49 : decode cX4_init 49 = .ok (.putfield 36, 3) := by decide +kernel
theorem dX4_init_52 : decode cX4_init 52 = .ok (.aload_n 0, 1) := by decide +kernel
theorem dX4_init_53 : decode cX4_init 53 = .ok (.iconst 0, 1) := by decide +kernel
theorem dX4_init_54 : decode cX4_init 54 = .ok (.putfield 39, 3) := by decide +kernel
theorem dX4_init_57 : decode cX4_init 57 = .ok (.aload_n 0, 1) := by decide +kernel
theorem dX4_init_58 : decode cX4_init 58 = .ok (.getfield 11, 3) := by decide +kernel
theorem dX4_init_61 : decode cX4_init 61 = .ok (.iconst 0, 1) := by decide +kernel
theorem dX4_init_62 : decode cX4_init 62 = .ok (.invokestatic 42, 3) := by decide +kernel
theorem dX4_init_65 : decode cX4_init 65 = .ok (.aload_n 0, 1) := by decide +kernel
theorem dX4_init_66 : decode cX4_init 66 = .ok (.getfield 15, 3) := by decide +kernel
theorem dX4_init_69 : decode cX4_init 69 = .ok (.bipush 8, 2) := by decide +kernel
theorem dX4_init_71 : decode cX4_init 71 = .ok (.invokestatic 42, 3) := by decide +kernel
theorem dX4_init_74 : decode cX4_init 74 = .ok (.lconst 0, 1) := by decide +kernel
theorem dX4_init_75 : decode cX4_init 75 = .ok (.lstore_n 1, 1) := by decide +kernel
theorem dX4_init_76 : decode cX4_init 76 = .ok (.iconst 0, 1) := by decide +kernel
theorem dX4_init_77 : decode cX4_init 77 = .ok (.istore_n 3, 1) := by decide +kernel
theorem dX4_init_78 : decode cX4_init 78 = .ok (.iload_n 3, 1) := by decide +kernel
theorem dX4_init_79 : decode cX4_init 79 = .ok (.sipush 256, 3) := by decide +kernel
theorem dX4_init_82 : decode cX4_init 82 = .ok (.if_icmp .ge 18, 3) := by decide +kernel
theorem dX4_init_85 : decode cX4_init 85 = .ok (.lload_n 1, 1) := by decide +kernel
theorem dX4_init_86 : decode cX4_init 86 = .ok (.aload_n 0, 1) := by decide +kernel
theorem dX4_init_87 : decode cX4_init 87 = .ok (.getfield 11, 3) := by decide +kernel
theorem dX4_init_90 : decode cX4_init 90 = .ok (.iload_n 3, 1) := by decide +kernel
theorem dX4_init_91 : decode cX4_init 91 = .ok (.laload, 1) := by decide +kernel
theorem dX4_init_92 : decode cX4_init 92 = .ok (.lor, 1) := by decide +kernel
theorem dX4_init_93 : decode cX4_init 93 = .ok (.lstore_n 1, 1) := by decide +kernel
theorem dX4_init_94 : decode cX4_init 94 = .ok (.iinc 3 1, 3) := by decide +kernel
theorem dX4_init_97 : decode cX4_init 97 = .ok (.goto (-19), 3) := by decide +kernel
theorem dX4_init_100 : decode cX4_init 100 = .ok (.aload_n 0, 1) := by decide +kernel
theorem dX4_init_101 : decode cX4_init 101 = .ok (.lload_n 1, 1) := by decide +kernel
theorem dX4_init_102 : decode cX4_init 102 = .ok (.ldc2_w 46, 3) := by decide +kernel
theorem dX4_init_105 : decode cX4_init 105 = .ok (.lxor, 1) := by decide +kernel
theorem dX4_init_106 : decode cX4_init 106 = .ok (.putfield 48, 3) := by decide +kernel
theorem dX4_init_109 : decode cX4_init 109 = .ok (.return_, 1) := by decide +kernel
theorem dX4_fillWithCharts_0 : decode cX4_fillWithCharts 0 = .ok (.iconst 1, 1) := by decide +kernel
theorem dX4_fillWithCharts_1 : decode cX4_fillWithCharts 1 = .ok (.istore_n 2, 1) := by decide +kernel
theorem dX4_fillWithCharts_2 : decode cX4_fillWithCharts 2 = .ok (.iload_n 2, 1) := by decide +kernel
theorem dX4_fillWithCharts_3 : decode cX4_fillWithCharts 3 = .ok (.sipush 256, 3) := by decide +kernel
theorem dX4_fillWithCharts_6 : decode cX4_fillWithCharts 6 = .ok (.if_icmp .ge 40, 3) := by decide +kernel
theorem dX4_fillWithCharts_9 : decode cX4_fillWithCharts 9 = .ok (.iload_n 2, 1) := by decide +kernel
theorem dX4_fillWithCharts_10 : decode cX4_fillWithCharts 10 = .ok (.iload_n 2, 1) := by decide +kernel
theorem dX4_fillWithCharts_11 : decode cX4_fillWithCharts 11 = .ok (.ineg, 1) := by decide +kernel
theorem dX4_fillWithCharts_12 : decode cX4_fillWithCharts 12 = .ok (.iand, 1) := by decide +kernel
theorem dX4_fillWithCharts_13 : decode cX4_fillWithCharts 13 = .ok (.istore_n 3, 1) := by decide +kernel
theorem dX4_fillWithCharts_14 : decode cX4_fillWithCharts 14 = .ok (.aload_n 0, 1) := by decide +kernel
theorem dX4_fillWithCharts_15 : decode cX4_fillWithCharts 15 = .ok (.iload_n 2, 1) := by decide +kernel
theorem dX4_fillWithCharts_16 : decode cX4_fillWithCharts 16 = .ok (.iload_n 2, 1) := by decide +kernel
theorem dX4_fillWithCharts_17 : decode cX4_fillWithCharts 17 = .ok (.iload_n 3, 1) := by decide +kernel
theorem dX4_fillWithCharts_18 : decode cX4_fillWithCharts 18 = .ok (.if_icmp .ne 12, 3) := by decide +kernel
theorem dX4_fillWithCharts_21 : decode cX4_fillWithCharts 21 = .ok (.iload_n 2, 1) := by decide +kernel
theorem dX4_fillWithCharts_22 : decode cX4_fillWithCharts 22 = .ok (.iload_n 1, 1) := by decide +kernel
theorem dX4_fillWithCharts_23 : decode cX4_fillWithCharts 23 = .ok (.ishl, 1) := by decide +kernel
theorem dX4_fillWithCharts_24 : decode cX4_fillWithCharts 24 = .ok (.invokestatic 51, 3) := by decide +kernel
theorem dX4_fillWithCharts_27 : decode cX4_fillWithCharts 27 = .ok (.goto 12, 3) := by decide +kernel
theorem dX4_fillWithCharts_30 : decode cX4_fillWithCharts 30 = .ok (.aload_n 0, 1) := by decide +kernel
theorem dX4_fillWithCharts_31 : decode cX4_fillWithCharts 31 = .ok (.iload_n 3, 1) := by decide +kernel
theorem dX4_fillWithCharts_32 : decode cX4_fillWithCharts 32 = .ok (.laload, 1) := by decide +kernel
theorem dX4_fillWithCharts_33 : decode cX4_fillWithCharts 33 = .ok (.aload_n 0, 1) := by decide +kernel
theorem dX4_fillWithCharts_34 : decode cX4_fillWithCharts 34 = .ok (.iload_n 2, 1) := by decide +kernel
theorem dX4_fillWithCharts_35 : decode cX4_fillWithCharts 35 = .ok (.iload_n 3, 1) := by decide +kernel
theorem dX4_fillWithCharts_36 : decode cX4_fillWithCharts 36 = .ok (.isub, 1) := by decide +kernel
theorem dX4_fillWithCharts_37 : decode cX4_fillWithCharts 37 = .ok (.laload, 1) := by decide +kernel
theorem dX4_fillWithCharts_38 : decode cX4_fillWithCharts 38 = .ok (.lxor, 1) := by decide +kernel
theorem dX4_fillWithCharts_39 : decode cX4_fillWithCharts 39 = .ok (.lastore, 1) := by decide +kernel
theorem dX4_fillWithCharts_40 : decode cX4_fillWithCharts 40 = .ok (.iinc 2 1, 3) := by decide +kernel
theorem dX4_fillWithCharts_43 : decode cX4_fillWithCharts 43 = .ok (.goto (-41), 3) := by decide +kernel
theorem dX4_fillWithCharts_46 : decode cX4_fillWithCharts 46 = .ok (.return_, 1) := by decide +kernel
theorem dX4_lookAt_0 : decode cX4_lookAt 0 = .ok (.aload_n 0, 1) := by decide +kernel
theorem dX4_lookAt_1 : decode cX4_lookAt 1 = .ok (.getfield 18, 3) := by decide +kernel
theorem dX4_lookAt_4 : decode cX4_lookAt 4 = .ok (.ifCond .eq 22, 3) := by decide +kernel
theorem dX4_lookAt_7 : decode cX4_lookAt 7 = .ok (.aload_n 0, 1) := by decide +kernel
theorem dX4_lookAt_8 : decode cX4_lookAt 8 = .ok (.getfield 22, 3) := by decide +kernel
theorem dX4_lookAt_11 : decode cX4_lookAt 11 = .ok (.lload_n 1, 1) := by decide +kernel
theorem dX4_lookAt_12 : decode cX4_lookAt 12 = .ok (.lcmp, 1) := by decide +kernel
theorem dX4_lookAt_13 : decode cX4_lookAt 13 = .ok (.ifCond .ne 13, 3) := by decide +kernel
theorem dX4_lookAt_16 : decode cX4_lookAt 16 = .ok (.aload_n 0, 1) := by decide +kernel
theorem dX4_lookAt_17 : decode cX4_lookAt 17 = .ok (.getfield 26, 3) := by decide +kernel
theorem dX4_lookAt_20 : decode cX4_lookAt 20 = .ok (.lload_n 3, 1) := by decide +kernel
theorem dX4_lookAt_21 : decode cX4_lookAt 21 = .ok (.lcmp, 1) := by decide +kernel
theorem dX4_lookAt_22 : decode cX4_lookAt 22 = .ok (.ifCond .ne 4, 3) := by decide +kernel
theorem dX4_lookAt_25 : decode cX4_lookAt 25 = .ok (.return_, 1) := by decide +kernel
theorem dX4_lookAt_26 : decode cX4_lookAt 26 = .ok (.aload_n 0, 1) := by decide +kernel
theorem dX4_lookAt_27 : decode cX4_lookAt 27 = .ok (.iconst 1, 1) := by decide +kernel
theorem dX4_lookAt_28 : decode cX4_lookAt 28 = .ok (.putfield 18, 3) := by decide +kernel
theorem dX4_lookAt_31 : decode cX4_lookAt 31 = .ok (.aload_n 0, 1) := by decide +kernel
theorem dX4_lookAt_32 : decode cX4_lookAt 32 = .ok (.lload_n 1, 1) := by decide +kernel
theorem dX4_lookAt_33 : decode cX4_lookAt 33 = .ok (.putfield 22, 3) := by decide +kernel
theorem dX4_lookAt_36 : decode cX4_lookAt 36 = .ok (.aload_n 0, 1) := by decide +kernel
theorem dX4_lookAt_37 : decode cX4_lookAt 37 = .ok (.lload_n 3, 1) := by decide +kernel
theorem dX4_lookAt_38 : decode cX4_lookAt 38 = .ok (.putfield 26, 3) := by decide +kernel
theorem dX4_lookAt_41 : decode cX4_lookAt 41 = .ok (.aload_n 0, 1) := by decide +kernel
theorem dX4_lookAt_42 : decode cX4_lookAt 42 = .ok (.iconst 0, 1) := by decide +kernel
theorem dX4_lookAt_43 : decode cX4_lookAt 43 = .ok (.putfield 29, 3) := by decide +kernel
theorem dX4_lookAt_46 : decode cX4_lookAt 46 = .ok (.aload_n 0, 1) := by decide +kernel
theorem dX4_lookAt_47 : decode cX4_lookAt 47 = .ok (.bipush 65, 2) := by decide +kernel
theorem dX4_lookAt_49 : decode cX4_lookAt 49 = .ok (.putfield 33, 3) := by decide +kernel
theorem dX4_lookAt_52 : decode cX4_lookAt 52 = .ok (.aload_n 0, 1) := by decide +kernel
theorem dX4_lookAt_53 : decode cX4_lookAt 53 = .ok (.iconst 0, 1) := by decide +kernel
theorem dX4_lookAt_54 : decode cX4_lookAt 54 = .ok (.putfield 36, 3) := by decide +kernel
theorem dX4_lookAt_57 : decode cX4_lookAt 57 = .ok (.aload_n 0, 1) := by decide +kernel
theorem dX4_lookAt_58 : decode cX4_lookAt 58 = .ok (.iconst 0, 1) := by decide +kernel
theorem dX4_lookAt_59 : decode cX4_lookAt 59 = .ok (.putfield 39, 3) := by decide +kernel
theorem dX4_lookAt_62 : decode cX4_lookAt 62 = .ok (.iconst 0, 1) := by decide +kernel
theorem dX4_lookAt_63 : decode cX4_lookAt 63 = .ok (.istore 5, 2) := by decide +kernel
theorem dX4_lookAt_65 : decode cX4_lookAt 65 = .ok (.iload 5, 2) := by decide +kernel
theorem dX4_lookAt_67 : decode cX4_lookAt 67 = .ok (.sipush 256, 3) := by decide +kernel
theorem dX4_lookAt_70 : decode cX4_lookAt 70 = .ok (.if_icmp .ge 53, 3) := by decide +kernel
theorem dX4_lookAt_73 : decode cX4_lookAt 73 = .ok (.aload_n 0, 1) := by decide +kernel
theorem dX4_lookAt_74 : decode cX4_lookAt 74 = .ok (.getfield 15, 3) := by decide +kernel
theorem dX4_lookAt_77 : decode cX4_lookAt 77 = .ok (.iload 5, 2) := by decide +kernel
theorem dX4_lookAt_79 : decode cX4_lookAt 79 = .ok (.laload, 1) := by decide +kernel
theorem dX4_lookAt_80 : decode cX4_lookAt 80 = .ok (.aload_n 0, 1) := by decide +kernel
theorem dX4_lookAt_81 : decode cX4_lookAt 81 = .ok (.getfield 22, 3) := by decide +kernel
theorem dX4_lookAt_84 : decode cX4_lookAt 84 = .ok (.lxor, 1) := by decide +kernel
theorem dX4_lookAt_85 : decode cX4_lookAt 85 = .ok (.aload_n 0, 1) := by decide +kernel
theorem dX4_lookAt_86 : decode cX4_lookAt 86 = .ok (.getfield 26, 3) := by decide +kernel
theorem dX4_lookAt_89 : decode cX4_lookAt 89 = .ok (.land, 1) := by decide +kernel
theorem dX4_lookAt_90 : decode cX4_lookAt 90 = .ok (.lstore 6, 2) := by decide +kernel
theorem dX4_lookAt_92 : decode cX4_lookAt 92 = .ok (.aload_n 0, 1) := by decide +kernel
theorem dX4_lookAt_93 : decode cX4_lookAt 93 = .ok (.lload 6, 2) := by decide +kernel
theorem dX4_lookAt_95 : decode cX4_lookAt 95 = .ok (.aload_n 0, 1) := by decide +kernel
theorem dX4_lookAt_96 : decode cX4_lookAt 96 = .ok (.getfield 48, 3) := by decide +kernel
theorem dX4_lookAt_99 : decode cX4_lookAt 99 = .ok (.land, 1) := by decide +kernel
theorem dX4_lookAt_100 : decode cX4_lookAt 100 = .ok (.invokevirtual 57, 3) := by decide +kernel
theorem dX4_lookAt_103 : decode cX4_lookAt 103 = .ok (.ifCond .eq 14, 3) := by decide +kernel
theorem dX4_lookAt_106 : decode cX4_lookAt 106 = .ok (.aload_n 0, 1) := by decide +kernel
theorem dX4_lookAt_107 : decode cX4_lookAt 107 = .ok (.iload 5, 2) := by decide +kernel
theorem dX4_lookAt_109 : decode cX4_lookAt 109 = .ok (.bipush 8, 2) := by decide +kernel
theorem dX4_lookAt_111 : decode cX4_lookAt 111 = .ok (.ishl, 1) := by decide +kernel
theorem dX4_lookAt_112 : decode cX4_lookAt 112 = .ok (.lload 6, 2) := by decide +kernel
theorem dX4_lookAt_114 : decode cX4_lookAt 114 = .ok (.invokevirtual 61, 3) := by decide +kernel
theorem dX4_lookAt_117 : decode cX4_lookAt 117 = .ok (.iinc 5 1, 3) := by decide +kernel
theorem dX4_lookAt_120 : decode cX4_lookAt 120 = .ok (.goto (-55), 3) := by decide +kernel
theorem dX4_lookAt_123 : decode cX4_lookAt 123 = .ok (.return_, 1) := by decide +kernel
theorem dX4_mayTellMore_0 : decode cX4_mayTellMore 0 = .ok (.lload_n 1, 1) := by decide +kernel
theorem dX4_mayTellMore_1 : decode cX4_mayTellMore 1 = .ok (.lconst 0, 1) := by decide +kernel
theorem dX4_mayTellMore_2 : decode cX4_mayTellMore 2 = .ok (.lcmp, 1) := by decide +kernel
theorem dX4_mayTellMore_3 : decode cX4_mayTellMore 3 = .ok (.ifCond .eq 25, 3) := by decide +kernel
theorem dX4_mayTellMore_6 : decode cX4_mayTellMore 6 = .ok (.lload_n 1, 1) := by decide +kernel
theorem dX4_mayTellMore_7 : decode cX4_mayTellMore 7 = .ok (.invokestatic 65, 3) := by decide +kernel
theorem dX4_mayTellMore_10 : decode cX4_mayTellMore 10 = .ok (.aload_n 0, 1) := by decide +kernel
theorem dX4_mayTellMore_11 : decode cX4_mayTellMore 11 = .ok (.getfield 33, 3) := by decide +kernel
theorem dX4_mayTellMore_14 : decode cX4_mayTellMore 14 = .ok (.if_icmp .lt 14, 3) := by decide +kernel
theorem dX4_mayTellMore_17 : decode cX4_mayTellMore 17 = .ok (.aload_n 0, 1) := by decide +kernel
theorem dX4_mayTellMore_18 : decode cX4_mayTellMore 18 = .ok (.getfield 39, 3) := by decide +kernel
theorem dX4_mayTellMore_21 : decode cX4_mayTellMore 21 = .ok (.lload_n 1, 1) := by decide +kernel
theorem dX4_mayTellMore_22 : decode cX4_mayTellMore 22 = .ok (.invokestatic 71, 3) := by decide +kernel
theorem dX4_mayTellMore_25 : decode cX4_mayTellMore 25 = .ok (.ifCond .eq 7, 3) := by decide +kernel
theorem dX4_mayTellMore_28 : decode cX4_mayTellMore 28 = .ok (.iconst 1, 1) := by decide +kernel
theorem dX4_mayTellMore_29 : decode cX4_mayTellMore 29 = .ok (.goto 4, 3) := by decide +kernel
theorem dX4_mayTellMore_32 : decode cX4_mayTellMore 32 = .ok (.iconst 0, 1) := by decide +kernel
theorem dX4_mayTellMore_33 : decode cX4_mayTellMore 33 = .ok (.ireturn, 1) := by decide +kernel
theorem dX4_lookThrough_0 : decode cX4_lookThrough 0 = .ok (.iconst 0, 1) := by decide +kernel
theorem dX4_lookThrough_1 : decode cX4_lookThrough 1 = .ok (.istore 4, 2) := by decide +kernel
theorem dX4_lookThrough_3 : decode cX4_lookThrough 3 = .ok (.iload 4, 2) := by decide +kernel
theorem dX4_lookThrough_5 : decode cX4_lookThrough 5 = .ok (.sipush 256, 3) := by decide +kernel
theorem dX4_lookThrough_8 : decode cX4_lookThrough 8 = .ok (.if_icmp .ge 104, 3) := by decide +kernel
theorem dX4_lookThrough_11 : decode cX4_lookThrough 11 = .ok (.lload_n 2, 1) := by decide +kernel
theorem dX4_lookThrough_12 : decode cX4_lookThrough 12 = .ok (.aload_n 0, 1) := by decide +kernel
theorem dX4_lookThrough_13 : decode cX4_lookThrough 13 = .ok (.getfield 11, 3) := by decide +kernel
theorem dX4_lookThrough_16 : decode cX4_lookThrough 16 = .ok (.iload 4, 2) := by decide +kernel
theorem dX4_lookThrough_18 : decode cX4_lookThrough 18 = .ok (.laload, 1) := by decide +kernel
theorem dX4_lookThrough_19 : decode cX4_lookThrough 19 = .ok (.aload_n 0, 1) := by decide +kernel
theorem dX4_lookThrough_20 : decode cX4_lookThrough 20 = .ok (.getfield 26, 3) := by decide +kernel
theorem dX4_lookThrough_23 : decode cX4_lookThrough 23 = .ok (.land, 1) := by decide +kernel
theorem dX4_lookThrough_24 : decode cX4_lookThrough 24 = .ok (.lxor, 1) := by decide +kernel
theorem dX4_lookThrough_25 : decode cX4_lookThrough 25 = .ok (.lstore 5, 2) := by decide +kernel
theorem dX4_lookThrough_27 : decode cX4_lookThrough 27 = .ok (.lload 5, 2) := by decide +kernel
theorem dX4_lookThrough_29 : decode cX4_lookThrough 29 = .ok (.invokestatic 65, 3) := by decide +kernel
theorem dX4_lookThrough_32 : decode cX4_lookThrough 32 = .ok (.istore 7, 2) := by decide +kernel
theorem dX4_lookThrough_34 : decode cX4_lookThrough 34 = .ok (.iload 7, 2) := by decide +kernel
theorem dX4_lookThrough_36 : decode cX4_lookThrough 36 = .ok (.aload_n 0, 1) := by decide +kernel
theorem dX4_lookThrough_37 : decode cX4_lookThrough 37 = .ok (.getfield 33, 3) := by decide +kernel
theorem dX4_lookThrough_40 : decode cX4_lookThrough 40 = .ok (.if_icmp .ge 17, 3) := by decide +kernel
theorem dX4_lookThrough_43 : decode cX4_lookThrough 43 = .ok (.aload_n 0, 1) := by decide +kernel
theorem dX4_lookThrough_44 : decode cX4_lookThrough 44 = .ok (.iload 7, 2) := by decide +kernel
theorem dX4_lookThrough_46 : decode cX4_lookThrough 46 = .ok (.putfield 33, 3) := by decide +kernel
theorem dX4_lookThrough_49 : decode cX4_lookThrough 49 = .ok (.aload_n 0, 1) := by decide +kernel
theorem dX4_lookThrough_50 : decode cX4_lookThrough 50 = .ok (.iload_n 1, 1) := by decide +kernel
theorem dX4_lookThrough_51 : decode cX4_lookThrough 51 = .ok (.iload 4, 2) := by decide +kernel
theorem dX4_lookThrough_53 : decode cX4_lookThrough 53 = .ok (.iadd, 1) := by decide +kernel
theorem dX4_lookThrough_54 : decode cX4_lookThrough 54 = .ok (.putfield 36, 3) := by decide +kernel
theorem dX4_lookThrough_57 : decode cX4_lookThrough 57 = .ok (.iload 7, 2) := by decide +kernel
theorem dX4_lookThrough_59 : decode cX4_lookThrough 59 = .ok (.ifCond .ne 13, 3) := by decide +kernel
theorem dX4_lookThrough_62 : decode cX4_lookThrough 62 = .ok (.aload_n 0, 1) := by decide +kernel
theorem dX4_lookThrough_63 : decode cX4_lookThrough 63 = .ok (.dup, 1) := by decide +kernel
theorem dX4_lookThrough_64 : decode cX4_lookThrough 64 = .ok (.getfield 29, 3) := by decide +kernel
theorem dX4_lookThrough_67 : decode cX4_lookThrough 67 = .ok (.iconst 1, 1) := by decide +kernel
theorem dX4_lookThrough_68 : decode cX4_lookThrough 68 = .ok (.iadd, 1) := by decide +kernel
theorem dX4_lookThrough_69 : decode cX4_lookThrough 69 = .ok (.putfield 29, 3) := by decide +kernel
theorem dX4_lookThrough_72 : decode cX4_lookThrough 72 = .ok (.aload_n 0, 1) := by decide +kernel
theorem dX4_lookThrough_73 : decode cX4_lookThrough 73 = .ok (.getfield 39, 3) := by decide +kernel
theorem dX4_lookThrough_76 : decode cX4_lookThrough 76 = .ok (.bipush 16, 2) := by decide +kernel
theorem dX4_lookThrough_78 : decode cX4_lookThrough 78 = .ok (.if_icmp .ge 28, 3) := by decide +kernel
theorem dX4_lookThrough_81 : decode cX4_lookThrough 81 = .ok (.aload_n 0, 1) := by decide +kernel
theorem dX4_lookThrough_82 : decode cX4_lookThrough 82 = .ok (.getfield 39, 3) := by decide +kernel
theorem dX4_lookThrough_85 : decode cX4_lookThrough 85 = .ok (.lload 5, 2) := by decide +kernel
theorem dX4_lookThrough_87 : decode cX4_lookThrough 87 = .ok (.invokestatic 71, 3) := by decide +kernel
theorem dX4_lookThrough_90 : decode cX4_lookThrough 90 = .ok (.ifCond .eq 16, 3) := by decide +kernel
theorem dX4_lookThrough_93 : decode cX4_lookThrough 93 = .ok (.aload_n 0, 1) := by decide +kernel
theorem dX4_lookThrough_94 : decode cX4_lookThrough 94 = .ok (.dup, 1) := by decide +kernel
theorem dX4_lookThrough_95 : decode cX4_lookThrough 95 = .ok (.getfield 39, 3) := by decide +kernel
theorem dX4_lookThrough_98 : decode cX4_lookThrough 98 = .ok (.iconst 1, 1) := by decide +kernel
theorem dX4_lookThrough_99 : decode cX4_lookThrough 99 = .ok (.iadd, 1) := by decide +kernel
theorem dX4_lookThrough_100 : decode cX4_lookThrough 100 = .ok (.putfield 39, 3) := by decide +kernel
theorem dX4_lookThrough_103 : decode cX4_lookThrough 103 = .ok (.goto (-31), 3) := by decide +kernel
theorem dX4_lookThrough_106 : decode cX4_lookThrough 106 = .ok (.iinc 4 1, 3) := by decide +kernel
theorem dX4_lookThrough_109 : decode cX4_lookThrough 109 = .ok (.goto (-106), 3) := by decide +kernel
theorem dX4_lookThrough_112 : decode cX4_lookThrough 112 = .ok (.return_, 1) := by decide +kernel
theorem dX4_agreesUpTo_0 : decode cX4_agreesUpTo 0 = .ok (.iload_n 0, 1) := by decide +kernel
theorem dX4_agreesUpTo_1 : decode cX4_agreesUpTo 1 = .ok (.bipush 16, 2) := by decide +kernel
theorem dX4_agreesUpTo_3 : decode cX4_agreesUpTo 3 = .ok (.if_icmp .ge 24, 3) := by decide +kernel
theorem dX4_agreesUpTo_6 : decode cX4_agreesUpTo 6 = .ok (.lload_n 1, 1) := by decide +kernel
theorem dX4_agreesUpTo_7 : decode cX4_agreesUpTo 7 = .ok (.ldc2_w 46, 3) := by decide +kernel
theorem dX4_agreesUpTo_10 : decode cX4_agreesUpTo 10 = .ok (.iconst 4, 1) := by decide +kernel
theorem dX4_agreesUpTo_11 : decode cX4_agreesUpTo 11 = .ok (.bipush 15, 2) := by decide +kernel
theorem dX4_agreesUpTo_13 : decode cX4_agreesUpTo 13 = .ok (.iload_n 0, 1) := by decide +kernel
theorem dX4_agreesUpTo_14 : decode cX4_agreesUpTo 14 = .ok (.isub, 1) := by decide +kernel
theorem dX4_agreesUpTo_15 : decode cX4_agreesUpTo 15 = .ok (.imul, 1) := by decide +kernel
theorem dX4_agreesUpTo_16 : decode cX4_agreesUpTo 16 = .ok (.lushr, 1) := by decide +kernel
theorem dX4_agreesUpTo_17 : decode cX4_agreesUpTo 17 = .ok (.land, 1) := by decide +kernel
theorem dX4_agreesUpTo_18 : decode cX4_agreesUpTo 18 = .ok (.lconst 0, 1) := by decide +kernel
theorem dX4_agreesUpTo_19 : decode cX4_agreesUpTo 19 = .ok (.lcmp, 1) := by decide +kernel
theorem dX4_agreesUpTo_20 : decode cX4_agreesUpTo 20 = .ok (.ifCond .ne 7, 3) := by decide +kernel
theorem dX4_agreesUpTo_23 : decode cX4_agreesUpTo 23 = .ok (.iconst 1, 1) := by decide +kernel
theorem dX4_agreesUpTo_24 : decode cX4_agreesUpTo 24 = .ok (.goto 4, 3) := by decide +kernel
theorem dX4_agreesUpTo_27 : decode cX4_agreesUpTo 27 = .ok (.iconst 0, 1) := by decide +kernel
theorem dX4_agreesUpTo_28 : decode cX4_agreesUpTo 28 = .ok (.ireturn, 1) := by decide +kernel
theorem dX4_answerTo_0 : decode cX4_answerTo 0 = .ok (.iload_n 1, 1) := by decide +kernel
theorem dX4_answerTo_1 : decode cX4_answerTo 1 = .ok (.tableswitch 86 0 4 #[35, 40, 57, 62, 67], 35) := by decide +kernel
theorem dX4_answerTo_36 : decode cX4_answerTo 36 = .ok (.aload_n 0, 1) := by decide +kernel
theorem dX4_answerTo_37 : decode cX4_answerTo 37 = .ok (.getfield 29, 3) := by decide +kernel
theorem dX4_answerTo_40 : decode cX4_answerTo 40 = .ok (.ireturn, 1) := by decide +kernel
theorem dX4_answerTo_41 : decode cX4_answerTo 41 = .ok (.aload_n 0, 1) := by decide +kernel
theorem dX4_answerTo_42 : decode cX4_answerTo 42 = .ok (.getfield 29, 3) := by decide +kernel
theorem dX4_answerTo_45 : decode cX4_answerTo 45 = .ok (.ifCond .le 10, 3) := by decide +kernel
theorem dX4_answerTo_48 : decode cX4_answerTo 48 = .ok (.aload_n 0, 1) := by decide +kernel
theorem dX4_answerTo_49 : decode cX4_answerTo 49 = .ok (.getfield 36, 3) := by decide +kernel
theorem dX4_answerTo_52 : decode cX4_answerTo 52 = .ok (.goto 5, 3) := by decide +kernel
theorem dX4_answerTo_55 : decode cX4_answerTo 55 = .ok (.ldc 75, 2) := by decide +kernel
theorem dX4_answerTo_57 : decode cX4_answerTo 57 = .ok (.ireturn, 1) := by decide +kernel
theorem dX4_answerTo_58 : decode cX4_answerTo 58 = .ok (.aload_n 0, 1) := by decide +kernel
theorem dX4_answerTo_59 : decode cX4_answerTo 59 = .ok (.getfield 33, 3) := by decide +kernel
theorem dX4_answerTo_62 : decode cX4_answerTo 62 = .ok (.ireturn, 1) := by decide +kernel
theorem dX4_answerTo_63 : decode cX4_answerTo 63 = .ok (.aload_n 0, 1) := by decide +kernel
theorem dX4_answerTo_64 : decode cX4_answerTo 64 = .ok (.getfield 36, 3) := by decide +kernel
theorem dX4_answerTo_67 : decode cX4_answerTo 67 = .ok (.ireturn, 1) := by decide +kernel
theorem dX4_answerTo_68 : decode cX4_answerTo 68 = .ok (.aload_n 0, 1) := by decide +kernel
theorem dX4_answerTo_69 : decode cX4_answerTo 69 = .ok (.getfield 39, 3) := by decide +kernel
theorem dX4_answerTo_72 : decode cX4_answerTo 72 = .ok (.bipush 16, 2) := by decide +kernel
theorem dX4_answerTo_74 : decode cX4_answerTo 74 = .ok (.if_icmp .ge 10, 3) := by decide +kernel
theorem dX4_answerTo_77 : decode cX4_answerTo 77 = .ok (.aload_n 0, 1) := by decide +kernel
theorem dX4_answerTo_78 : decode cX4_answerTo 78 = .ok (.getfield 39, 3) := by decide +kernel
theorem dX4_answerTo_81 : decode cX4_answerTo 81 = .ok (.goto 5, 3) := by decide +kernel
theorem dX4_answerTo_84 : decode cX4_answerTo 84 = .ok (.ldc 75, 2) := by decide +kernel
theorem dX4_answerTo_86 : decode cX4_answerTo 86 = .ok (.ireturn, 1) := by decide +kernel
theorem dX4_answerTo_87 : decode cX4_answerTo 87 = .ok (.ldc 76, 2) := by decide +kernel
theorem dX4_answerTo_89 : decode cX4_answerTo 89 = .ok (.ireturn, 1) := by decide +kernel
theorem dX5_init_0 : decode cX5_init 0 = .ok (.aload_n 0, 1) := by decide +kernel
theorem dX5_init_1 : decode cX5_init 1 = .ok (.invokespecial 3, 3) := by decide +kernel
theorem dX5_init_4 : decode cX5_init 4 = .ok (.aload_n 0, 1) := by decide +kernel
theorem dX5_init_5 : decode cX5_init 5 = .ok (.new 9, 3) := by decide +kernel
theorem dX5_init_8 : decode cX5_init 8 = .ok (.dup, 1) := by decide +kernel
theorem dX5_init_9 : decode cX5_init 9 = .ok (.invokespecial 11, 3) := by decide +kernel
theorem dX5_init_12 : decode cX5_init 12 = .ok (.putfield 12, 3) := by decide +kernel
theorem dX5_init_15 : decode cX5_init 15 = .ok (.aload_n 0, 1) := by decide +kernel
theorem dX5_init_16 : decode cX5_init 16 = .ok (.iconst 0, 1) := by decide +kernel
theorem dX5_init_17 : decode cX5_init 17 = .ok (.putfield 18, 3) := by decide +kernel
theorem dX5_init_20 : decode cX5_init 20 = .ok (.aload_n 0, 1) := by decide +kernel
theorem dX5_init_21 : decode cX5_init 21 = .ok (.iconst 0, 1) := by decide +kernel
theorem dX5_init_22 : decode cX5_init 22 = .ok (.putfield 22, 3) := by decide +kernel
theorem dX5_init_25 : decode cX5_init 25 = .ok (.aload_n 0, 1) := by decide +kernel
theorem dX5_init_26 : decode cX5_init 26 = .ok (.iconst 0, 1) := by decide +kernel
theorem dX5_init_27 : decode cX5_init 27 = .ok (.putfield 25, 3) := by decide +kernel
theorem dX5_init_30 : decode cX5_init 30 = .ok (.aload_n 0, 1) := by decide +kernel
theorem dX5_init_31 : decode cX5_init 31 = .ok (.iconst 0, 1) := by decide +kernel
theorem dX5_init_32 : decode cX5_init 32 = .ok (.putfield 28, 3) := by decide +kernel
theorem dX5_init_35 : decode cX5_init 35 = .ok (.return_, 1) := by decide +kernel
theorem dX5_readInto_0 : decode cX5_readInto 0 = .ok (.aload_n 0, 1) := by decide +kernel
theorem dX5_readInto_1 : decode cX5_readInto 1 = .ok (.getfield 12, 3) := by decide +kernel
theorem dX5_readInto_4 : decode cX5_readInto 4 = .ok (.aload_n 2, 1) := by decide +kernel
theorem dX5_readInto_5 : decode cX5_readInto 5 = .ok (.invokevirtual 31, 3) := by decide +kernel
theorem dX5_readInto_8 : decode cX5_readInto 8 = .ok (.aload_n 0, 1) := by decide +kernel
theorem dX5_readInto_9 : decode cX5_readInto 9 = .ok (.iconst 0, 1) := by decide +kernel
theorem dX5_readInto_10 : decode cX5_readInto 10 = .ok (.putfield 18, 3) := by decide +kernel
theorem dX5_readInto_13 : decode cX5_readInto 13 = .ok (.aload_n 1, 1) := by decide +kernel
theorem dX5_readInto_14 : decode cX5_readInto 14 = .ok (.iconst 0, 1) := by decide +kernel
theorem dX5_readInto_15 : decode cX5_readInto 15 = .ok (.putfield 35, 3) := by decide +kernel
theorem dX5_readInto_18 : decode cX5_readInto 18 = .ok (.iconst 0, 1) := by decide +kernel
theorem dX5_readInto_19 : decode cX5_readInto 19 = .ok (.istore_n 3, 1) := by decide +kernel
theorem dX5_readInto_20 : decode cX5_readInto 20 = .ok (.iload_n 3, 1) := by decide +kernel
theorem dX5_readInto_21 : decode cX5_readInto 21 = .ok (.bipush 15, 2) := by decide +kernel
theorem dX5_readInto_23 : decode cX5_readInto 23 = .ok (.if_icmp .gt 35, 3) := by decide +kernel
theorem dX5_readInto_26 : decode cX5_readInto 26 = .ok (.aload_n 0, 1) := by decide +kernel
theorem dX5_readInto_27 : decode cX5_readInto 27 = .ok (.getfield 12, 3) := by decide +kernel
theorem dX5_readInto_30 : decode cX5_readInto 30 = .ok (.aload_n 0, 1) := by decide +kernel
theorem dX5_readInto_31 : decode cX5_readInto 31 = .ok (.getfield 18, 3) := by decide +kernel
theorem dX5_readInto_34 : decode cX5_readInto 34 = .ok (.invokevirtual 40, 3) := by decide +kernel
theorem dX5_readInto_37 : decode cX5_readInto 37 = .ok (.ifCond .ne 5, 3) := by decide +kernel
theorem dX5_readInto_40 : decode cX5_readInto 40 = .ok (.iconst 1, 1) := by decide +kernel
theorem dX5_readInto_41 : decode cX5_readInto 41 = .ok (.ireturn, 1) := by decide +kernel
theorem dX5_readInto_42 : decode cX5_readInto 42 = .ok (.aload_n 0, 1) := by decide +kernel
theorem dX5_readInto_43 : decode cX5_readInto 43 = .ok (.aload_n 1, 1) := by decide +kernel
theorem dX5_readInto_44 : decode cX5_readInto 44 = .ok (.invokevirtual 44, 3) := by decide +kernel
theorem dX5_readInto_47 : decode cX5_readInto 47 = .ok (.ifCond .ne 5, 3) := by decide +kernel
theorem dX5_readInto_50 : decode cX5_readInto 50 = .ok (.iconst 0, 1) := by decide +kernel
theorem dX5_readInto_51 : decode cX5_readInto 51 = .ok (.ireturn, 1) := by decide +kernel
theorem dX5_readInto_52 : decode cX5_readInto 52 = .ok (.iinc 3 1, 3) := by decide +kernel
theorem dX5_readInto_55 : decode cX5_readInto 55 = .ok (.goto (-35), 3) := by decide +kernel
theorem dX5_readInto_58 : decode cX5_readInto 58 = .ok (.iconst 1, 1) := by decide +kernel
theorem dX5_readInto_59 : decode cX5_readInto 59 = .ok (.ireturn, 1) := by decide +kernel
theorem dX5_readRule_0 : decode cX5_readRule 0 = .ok (.aload_n 0, 1) := by decide +kernel
theorem dX5_readRule_1 : decode cX5_readRule 1 = .ok (.getfield 12, 3) := by decide +kernel
theorem dX5_readRule_4 : decode cX5_readRule 4 = .ok (.aload_n 0, 1) := by decide +kernel
theorem dX5_readRule_5 : decode cX5_readRule 5 = .ok (.getfield 18, 3) := by decide +kernel
theorem dX5_readRule_8 : decode cX5_readRule 8 = .ok (.invokevirtual 40, 3) := by decide +kernel
theorem dX5_readRule_11 : decode cX5_readRule 11 = .ok (.sipush 26982, 3) := by decide +kernel
theorem dX5_readRule_14 : decode cX5_readRule 14 = .ok (.if_icmp .ne 16, 3) := by decide +kernel
theorem dX5_readRule_17 : decode cX5_readRule 17 = .ok (.aload_n 1, 1) := by decide +kernel
theorem dX5_readRule_18 : decode cX5_readRule 18 = .ok (.invokevirtual 48, 3) := by decide +kernel
theorem dX5_readRule_21 : decode cX5_readRule 21 = .ok (.ifCond .eq 9, 3) := by decide +kernel
theorem dX5_readRule_24 : decode cX5_readRule 24 = .ok (.aload_n 0, 1) := by decide +kernel
theorem dX5_readRule_25 : decode cX5_readRule 25 = .ok (.iconst 3, 1) := by decide +kernel
theorem dX5_readRule_26 : decode cX5_readRule 26 = .ok (.invokevirtual 52, 3) := by decide +kernel
theorem dX5_readRule_29 : decode cX5_readRule 29 = .ok (.ireturn, 1) := by decide +kernel
theorem dX5_readRule_30 : decode cX5_readRule 30 = .ok (.aload_n 0, 1) := by decide +kernel
theorem dX5_readRule_31 : decode cX5_readRule 31 = .ok (.sipush 26982, 3) := by decide +kernel
theorem dX5_readRule_34 : decode cX5_readRule 34 = .ok (.invokevirtual 56, 3) := by decide +kernel
theorem dX5_readRule_37 : decode cX5_readRule 37 = .ok (.ifCond .ne 5, 3) := by decide +kernel
theorem dX5_readRule_40 : decode cX5_readRule 40 = .ok (.iconst 0, 1) := by decide +kernel
theorem dX5_readRule_41 : decode cX5_readRule 41 = .ok (.ireturn, 1) := by decide +kernel
theorem dX5_readRule_42 : decode cX5_readRule 42 = .ok (.aload_n 1, 1) := by decide +kernel
theorem dX5_readRule_43 : decode cX5_readRule 43 = .ok (.invokevirtual 59, 3) := by decide +kernel
theorem dX5_readRule_46 : decode cX5_readRule 46 = .ok (.aload_n 0, 1) := by decide +kernel
theorem dX5_readRule_47 : decode cX5_readRule 47 = .ok (.aload_n 1, 1) := by decide +kernel
theorem dX5_readRule_48 : decode cX5_readRule 48 = .ok (.invokevirtual 62, 3) := by decide +kernel
theorem dX5_readRule_51 : decode cX5_readRule 51 = .ok (.ifCond .ne 5, 3) := by decide +kernel
theorem dX5_readRule_54 : decode cX5_readRule 54 = .ok (.iconst 0, 1) := by decide +kernel
theorem dX5_readRule_55 : decode cX5_readRule 55 = .ok (.ireturn, 1) := by decide +kernel
theorem dX5_readRule_56 : decode cX5_readRule 56 = .ok (.iconst 1, 1) := by decide +kernel
theorem dX5_readRule_57 : decode cX5_readRule 57 = .ok (.istore_n 2, 1) := by decide +kernel
theorem dX5_readRule_58 : decode cX5_readRule 58 = .ok (.iload_n 2, 1) := by decide +kernel
theorem dX5_readRule_59 : decode cX5_readRule 59 = .ok (.iconst 4, 1) := by decide +kernel
theorem dX5_readRule_60 : decode cX5_readRule 60 = .ok (.if_icmp .gt 55, 3) := by decide +kernel
theorem dX5_readRule_63 : decode cX5_readRule 63 = .ok (.aload_n 0, 1) := by decide +kernel
theorem dX5_readRule_64 : decode cX5_readRule 64 = .ok (.getfield 12, 3) := by decide +kernel
theorem dX5_readRule_67 : decode cX5_readRule 67 = .ok (.aload_n 0, 1) := by decide +kernel
theorem dX5_readRule_68 : decode cX5_readRule 68 = .ok (.getfield 18, 3) := by decide +kernel
theorem dX5_readRule_71 : decode cX5_readRule 71 = .ok (.invokevirtual 40, 3) := by decide +kernel
theorem dX5_readRule_74 : decode cX5_readRule 74 = .ok (.ldc 65, 2) := by decide +kernel
theorem dX5_readRule_76 : decode cX5_readRule 76 = .ok (.if_icmp .ne 39, 3) := by decide +kernel
theorem dX5_readRule_79 : decode cX5_readRule 79 = .ok (.iload_n 2, 1) := by decide +kernel
theorem dX5_readRule_80 : decode cX5_readRule 80 = .ok (.iconst 4, 1) := by decide +kernel
theorem dX5_readRule_81 : decode cX5_readRule 81 = .ok (.if_icmp .ne 9, 3) := by decide +kernel
theorem dX5_readRule_84 : decode cX5_readRule 84 = .ok (.aload_n 0, 1) := by decide +kernel
theorem dX5_readRule_85 : decode cX5_readRule 85 = .ok (.iconst 3, 1) := by decide +kernel
theorem dX5_readRule_86 : decode cX5_readRule 86 = .ok (.invokevirtual 52, 3) := by decide +kernel
theorem dX5_readRule_89 : decode cX5_readRule 89 = .ok (.ireturn, 1) := by decide +kernel
theorem dX5_readRule_90 : decode cX5_readRule 90 = .ok (.aload_n 0, 1) := by decide +kernel
theorem dX5_readRule_91 : decode cX5_readRule 91 = .ok (.ldc 65, 2) := by decide +kernel
theorem dX5_readRule_93 : decode cX5_readRule 93 = .ok (.invokevirtual 56, 3) := by decide +kernel
theorem dX5_readRule_96 : decode cX5_readRule 96 = .ok (.ifCond .eq 11, 3) := by decide +kernel
theorem dX5_readRule_99 : decode cX5_readRule 99 = .ok (.aload_n 0, 1) := by decide +kernel
theorem dX5_readRule_100 : decode cX5_readRule 100 = .ok (.aload_n 1, 1) := by decide +kernel
theorem dX5_readRule_101 : decode cX5_readRule 101 = .ok (.invokevirtual 62, 3) := by decide +kernel
theorem dX5_readRule_104 : decode cX5_readRule 104 = .ok (.ifCond .ne 5, 3) := by decide +kernel
theorem dX5_readRule_107 : decode cX5_readRule 107 = .ok (.iconst 0, 1) := by decide +kernel
theorem dX5_readRule_108 : decode cX5_readRule 108 = .ok (.ireturn, 1) := by decide +kernel
theorem dX5_readRule_109 : decode cX5_readRule 109 = .ok (.iinc 2 1, 3) := by decide +kernel
theorem dX5_readRule_112 : decode cX5_readRule 112 = .ok (.goto (-54), 3) := by decide +kernel
theorem dX5_readRule_115 : decode cX5_readRule 115 = .ok (.aload_n 0, 1) := by decide +kernel
theorem dX5_readRule_116 : decode cX5_readRule 116 = .ok (.ldc 66, 2) := by decide +kernel
theorem dX5_readRule_118 : decode cX5_readRule 118 = .ok (.invokevirtual 56, 3) := by decide +kernel
theorem dX5_readRule_121 : decode cX5_readRule 121 = .ok (.ifCond .eq 22, 3) := by decide +kernel
theorem dX5_readRule_124 : decode cX5_readRule 124 = .ok (.aload_n 0, 1) := by decide +kernel
theorem dX5_readRule_125 : decode cX5_readRule 125 = .ok (.iconst 0, 1) := by decide +kernel
theorem dX5_readRule_126 : decode cX5_readRule 126 = .ok (.sipush 9999, 3) := by decide +kernel
theorem dX5_readRule_129 : decode cX5_readRule 129 = .ok (.invokevirtual 67, 3) := by decide +kernel
theorem dX5_readRule_132 : decode cX5_readRule 132 = .ok (.ifCond .eq 11, 3) := by decide +kernel
theorem dX5_readRule_135 : decode cX5_readRule 135 = .ok (.aload_n 0, 1) := by decide +kernel
theorem dX5_readRule_136 : decode cX5_readRule 136 = .ok (.iconst 2, 1) := by decide +kernel
theorem dX5_readRule_137 : decode cX5_readRule 137 = .ok (.invokevirtual 56, 3) := by decide +kernel
theorem dX5_readRule_140 : decode cX5_readRule 140 = .ok (.ifCond .ne 5, 3) := by decide +kernel
theorem dX5_readRule_143 : decode cX5_readRule 143 = .ok (.iconst 0, 1) := by decide +kernel
theorem dX5_readRule_144 : decode cX5_readRule 144 = .ok (.ireturn, 1) := by decide +kernel
theorem dX5_readRule_145 : decode cX5_readRule 145 = .ok (.aload_n 1, 1) := by decide +kernel
theorem dX5_readRule_146 : decode cX5_readRule 146 = .ok (.aload_n 0, 1) := by decide +kernel
theorem dX5_readRule_147 : decode cX5_readRule 147 = .ok (.getfield 22, 3) := by decide +kernel
theorem dX5_readRule_150 : decode cX5_readRule 150 = .ok (.invokevirtual 71, 3) := by decide +kernel
theorem dX5_readRule_153 : decode cX5_readRule 153 = .ok (.iconst 1, 1) := by decide +kernel
theorem dX5_readRule_154 : decode cX5_readRule 154 = .ok (.ireturn, 1) := by decide +kernel
theorem dX5_readTest_0 : decode cX5_readTest 0 = .ok (.aload_n 0, 1) := by decide +kernel
theorem dX5_readTest_1 : decode cX5_readTest 1 = .ok (.getfield 12, 3) := by decide +kernel
theorem dX5_readTest_4 : decode cX5_readTest 4 = .ok (.aload_n 0, 1) := by decide +kernel
theorem dX5_readTest_5 : decode cX5_readTest 5 = .ok (.getfield 18, 3) := by decide +kernel
theorem dX5_readTest_8 : decode cX5_readTest 8 = .ok (.invokevirtual 40, 3) := by decide +kernel
theorem dX5_readTest_11 : decode cX5_readTest 11 = .ok (.istore_n 2, 1) := by decide +kernel
theorem dX5_readTest_12 : decode cX5_readTest 12 = .ok (.iload_n 2, 1) := by decide +kernel
theorem dX5_readTest_13 : decode cX5_readTest 13 = .ok (.ldc 75, 2) := by decide +kernel
theorem dX5_readTest_15 : decode cX5_readTest 15 = .ok (.if_icmp .eq 27, 3) := by decide +kernel
theorem dX5_readTest_18 : decode cX5_readTest 18 = .ok (.iload_n 2, 1) := by decide +kernel
theorem dX5_readTest_19 : decode cX5_readTest 19 = .ok (.ldc 76, 2) := by decide +kernel
theorem dX5_readTest_21 : decode cX5_readTest 21 = .ok (.if_icmp .eq 21, 3) := by decide +kernel
theorem dX5_readTest_24 : decode cX5_readTest 24 = .ok (.iload_n 2, 1) := by decide +kernel
theorem dX5_readTest_25 : decode cX5_readTest 25 = .ok (.ldc 77, 2) := by decide +kernel
theorem dX5_readTest_27 : decode cX5_readTest 27 = .ok (.if_icmp .eq 15, 3) := by decide +kernel
theorem dX5_readTest_30 : decode cX5_readTest 30 = .ok (.iload_n 2, 1) := by decide +kernel
theorem dX5_readTest_31 : decode cX5_readTest 31 = .ok (.ldc 78, 2) := by decide +kernel
theorem dX5_readTest_33 : decode cX5_readTest 33 = .ok (.if_icmp .eq 9, 3) := by decide +kernel
theorem dX5_readTest_36 : decode cX5_readTest 36 = .ok (.aload_n 0, 1) := by decide +kernel
theorem dX5_readTest_37 : decode cX5_readTest 37 = .ok (.iconst 1, 1) := by decide +kernel
theorem dX5_readTest_38 : decode cX5_readTest 38 = .ok (.invokevirtual 52, 3) := by decide +kernel
theorem dX5_readTest_41 : decode cX5_readTest 41 = .ok (.ireturn, 1) := by decide +kernel
theorem dX5_readTest_42 : decode cX5_readTest 42 = .ok (.iload_n 2, 1) := by decide +kernel
theorem dX5_readTest_43 : decode cX5_readTest 43 = .ok (.ldc 77, 2) := by decide +kernel
theorem dX5_readTest_45 : decode cX5_readTest 45 = .ok (.if_icmp .ne 7, 3) := by decide +kernel
theorem dX5_readTest_48 : decode cX5_readTest 48 = .ok (.iconst 1, 1) := by decide +kernel
theorem dX5_readTest_49 : decode cX5_readTest 49 = .ok (.goto 4, 3) := by decide +kernel
theorem dX5_readTest_52 : decode cX5_readTest 52 = .ok (.iconst 0, 1) := by decide +kernel
theorem dX5_readTest_53 : decode cX5_readTest 53 = .ok (.istore_n 3, 1) := by decide +kernel
theorem dX5_readTest_54 : decode cX5_readTest 54 = .ok (.aload_n 0, 1) := by decide +kernel
theorem dX5_readTest_55 : decode cX5_readTest 55 = .ok (.iload_n 2, 1) := by decide +kernel
theorem dX5_readTest_56 : decode cX5_readTest 56 = .ok (.invokevirtual 56, 3) := by decide +kernel
theorem dX5_readTest_59 : decode cX5_readTest 59 = .ok (.ifCond .eq 30, 3) := by decide +kernel
theorem dX5_readTest_62 : decode cX5_readTest 62 = .ok (.aload_n 0, 1) := by decide +kernel
theorem dX5_readTest_63 : decode cX5_readTest 63 = .ok (.iload_n 3, 1) := by decide +kernel
theorem dX5_readTest_64 : decode cX5_readTest 64 = .ok (.ifCond .eq 7, 3) := by decide +kernel
theorem dX5_readTest_67 : decode cX5_readTest 67 = .ok (.iconst 1, 1) := by decide +kernel
theorem dX5_readTest_68 : decode cX5_readTest 68 = .ok (.goto 4, 3) := by decide +kernel
theorem dX5_readTest_71 : decode cX5_readTest 71 = .ok (.iconst 0, 1) := by decide +kernel
theorem dX5_readTest_72 : decode cX5_readTest 72 = .ok (.iload_n 3, 1) := by decide +kernel
theorem dX5_readTest_73 : decode cX5_readTest 73 = .ok (.ifCond .eq 8, 3) := by decide +kernel
theorem dX5_readTest_76 : decode cX5_readTest 76 = .ok (.bipush 11, 2) := by decide +kernel
theorem dX5_readTest_78 : decode cX5_readTest 78 = .ok (.goto 5, 3) := by decide +kernel
theorem dX5_readTest_81 : decode cX5_readTest 81 = .ok (.bipush 15, 2) := by decide +kernel
theorem dX5_readTest_83 : decode cX5_readTest 83 = .ok (.invokevirtual 67, 3) := by decide +kernel
theorem dX5_readTest_86 : decode cX5_readTest 86 = .ok (.ifCond .ne 5, 3) := by decide +kernel
theorem dX5_readTest_89 : decode cX5_readTest 89 = .ok (.iconst 0, 1) := by decide +kernel
theorem dX5_readTest_90 : decode cX5_readTest 90 = .ok (.ireturn, 1) := by decide +kernel
theorem dX5_readTest_91 : decode cX5_readTest 91 = .ok (.aload_n 0, 1) := by decide +kernel
theorem dX5_readTest_92 : decode cX5_readTest 92 = .ok (.getfield 22, 3) := by decide +kernel
theorem dX5_readTest_95 : decode cX5_readTest 95 = .ok (.istore 4, 2) := by decide +kernel
theorem dX5_readTest_97 : decode cX5_readTest 97 = .ok (.iload_n 2, 1) := by decide +kernel
theorem dX5_readTest_98 : decode cX5_readTest 98 = .ok (.ldc 75, 2) := by decide +kernel
theorem dX5_readTest_100 : decode cX5_readTest 100 = .ok (.if_icmp .ne 15, 3) := by decide +kernel
theorem dX5_readTest_103 : decode cX5_readTest 103 = .ok (.aload_n 0, 1) := by decide +kernel
theorem dX5_readTest_104 : decode cX5_readTest 104 = .ok (.sipush 24948, 3) := by decide +kernel
theorem dX5_readTest_107 : decode cX5_readTest 107 = .ok (.invokevirtual 56, 3) := by decide +kernel
theorem dX5_readTest_110 : decode cX5_readTest 110 = .ok (.ifCond .ne 5, 3) := by decide +kernel
theorem dX5_readTest_113 : decode cX5_readTest 113 = .ok (.iconst 0, 1) := by decide +kernel
theorem dX5_readTest_114 : decode cX5_readTest 114 = .ok (.ireturn, 1) := by decide +kernel
theorem dX5_readTest_115 : decode cX5_readTest 115 = .ok (.iload_n 2, 1) := by decide +kernel
theorem dX5_readTest_116 : decode cX5_readTest 116 = .ok (.ldc 75, 2) := by decide +kernel
theorem dX5_readTest_118 : decode cX5_readTest 118 = .ok (.if_icmp .eq 9, 3) := by decide +kernel
theorem dX5_readTest_121 : decode cX5_readTest 121 = .ok (.iload_n 2, 1) := by decide +kernel
theorem dX5_readTest_122 : decode cX5_readTest 122 = .ok (.ldc 76, 2) := by decide +kernel
theorem dX5_readTest_124 : decode cX5_readTest 124 = .ok (.if_icmp .ne 7, 3) := by decide +kernel
theorem dX5_readTest_127 : decode cX5_readTest 127 = .ok (.iconst 1, 1) := by decide +kernel
theorem dX5_readTest_128 : decode cX5_readTest 128 = .ok (.goto 4, 3) := by decide +kernel
theorem dX5_readTest_131 : decode cX5_readTest 131 = .ok (.iconst 0, 1) := by decide +kernel
theorem dX5_readTest_132 : decode cX5_readTest 132 = .ok (.istore 5, 2) := by decide +kernel
theorem dX5_readTest_134 : decode cX5_readTest 134 = .ok (.iload 5, 2) := by decide +kernel
theorem dX5_readTest_136 : decode cX5_readTest 136 = .ok (.ifCond .eq 15, 3) := by decide +kernel
theorem dX5_readTest_139 : decode cX5_readTest 139 = .ok (.aload_n 0, 1) := by decide +kernel
theorem dX5_readTest_140 : decode cX5_readTest 140 = .ok (.iconst 0, 1) := by decide +kernel
theorem dX5_readTest_141 : decode cX5_readTest 141 = .ok (.bipush 15, 2) := by decide +kernel
theorem dX5_readTest_143 : decode cX5_readTest 143 = .ok (.invokevirtual 67, 3) := by decide +kernel
theorem dX5_readTest_146 : decode cX5_readTest 146 = .ok (.ifCond .ne 5, 3) := by decide +kernel
theorem dX5_readTest_149 : decode cX5_readTest 149 = .ok (.iconst 0, 1) := by decide +kernel
theorem dX5_readTest_150 : decode cX5_readTest 150 = .ok (.ireturn, 1) := by decide +kernel
theorem dX5_readTest_151 : decode cX5_readTest 151 = .ok (.aload_n 1, 1) := by decide +kernel
theorem dX5_readTest_152 : decode cX5_readTest 152 = .ok (.iload_n 2, 1) := by decide +kernel
theorem dX5_readTest_153 : decode cX5_readTest 153 = .ok (.iload 4, 2) := by decide +kernel
theorem dX5_readTest_155 : decode cX5_readTest 155 = .ok (.aload_n 0, 1) := by decide +kernel
theorem dX5_readTest_156 : decode cX5_readTest 156 = .ok (.getfield 22, 3) := by decide +kernel
theorem dX5_readTest_159 : decode cX5_readTest 159 = .ok (.invokevirtual 79, 3) := by decide +kernel
theorem dX5_readTest_162 : decode cX5_readTest 162 = .ok (.iconst 1, 1) := by decide +kernel
theorem dX5_readTest_163 : decode cX5_readTest 163 = .ok (.ireturn, 1) := by decide +kernel
theorem dX5_take_0 : decode cX5_take 0 = .ok (.aload_n 0, 1) := by decide +kernel
theorem dX5_take_1 : decode cX5_take 1 = .ok (.getfield 12, 3) := by decide +kernel
theorem dX5_take_4 : decode cX5_take 4 = .ok (.aload_n 0, 1) := by decide +kernel
theorem dX5_take_5 : decode cX5_take 5 = .ok (.getfield 18, 3) := by decide +kernel
theorem dX5_take_8 : decode cX5_take 8 = .ok (.invokevirtual 40, 3) := by decide +kernel
theorem dX5_take_11 : decode cX5_take 11 = .ok (.iload_n 1, 1) := by decide +kernel
theorem dX5_take_12 : decode cX5_take 12 = .ok (.if_icmp .eq 9, 3) := by decide +kernel
theorem dX5_take_15 : decode cX5_take 15 = .ok (.aload_n 0, 1) := by decide +kernel
theorem dX5_take_16 : decode cX5_take 16 = .ok (.iconst 1, 1) := by decide +kernel
theorem dX5_take_17 : decode cX5_take 17 = .ok (.invokevirtual 52, 3) := by decide +kernel
theorem dX5_take_20 : decode cX5_take 20 = .ok (.ireturn, 1) := by decide +kernel
theorem dX5_take_21 : decode cX5_take 21 = .ok (.aload_n 0, 1) := by decide +kernel
theorem dX5_take_22 : decode cX5_take 22 = .ok (.dup, 1) := by decide +kernel
theorem dX5_take_23 : decode cX5_take 23 = .ok (.getfield 18, 3) := by decide +kernel
theorem dX5_take_26 : decode cX5_take 26 = .ok (.iconst 1, 1) := by decide +kernel
theorem dX5_take_27 : decode cX5_take 27 = .ok (.iadd, 1) := by decide +kernel
theorem dX5_take_28 : decode cX5_take 28 = .ok (.putfield 18, 3) := by decide +kernel
theorem dX5_take_31 : decode cX5_take 31 = .ok (.iconst 1, 1) := by decide +kernel
theorem dX5_take_32 : decode cX5_take 32 = .ok (.ireturn, 1) := by decide +kernel
theorem dX5_takeNumber_0 : decode cX5_takeNumber 0 = .ok (.aload_n 0, 1) := by decide +kernel
theorem dX5_takeNumber_1 : decode cX5_takeNumber 1 = .ok (.getfield 12, 3) := by decide +kernel
theorem dX5_takeNumber_4 : decode cX5_takeNumber 4 = .ok (.aload_n 0, 1) := by decide +kernel
theorem dX5_takeNumber_5 : decode cX5_takeNumber 5 = .ok (.getfield 18, 3) := by decide +kernel
theorem dX5_takeNumber_8 : decode cX5_takeNumber 8 = .ok (.invokevirtual 40, 3) := by decide +kernel
theorem dX5_takeNumber_11 : decode cX5_takeNumber 11 = .ok (.iconst 1, 1) := by decide +kernel
theorem dX5_takeNumber_12 : decode cX5_takeNumber 12 = .ok (.if_icmp .eq 9, 3) := by decide +kernel
theorem dX5_takeNumber_15 : decode cX5_takeNumber 15 = .ok (.aload_n 0, 1) := by decide +kernel
theorem dX5_takeNumber_16 : decode cX5_takeNumber 16 = .ok (.iconst 1, 1) := by decide +kernel
theorem dX5_takeNumber_17 : decode cX5_takeNumber 17 = .ok (.invokevirtual 52, 3) := by decide +kernel
theorem dX5_takeNumber_20 : decode cX5_takeNumber 20 = .ok (.ireturn, 1) := by decide +kernel
theorem dX5_takeNumber_21 : decode cX5_takeNumber 21 = .ok (.aload_n 0, 1) := by decide +kernel
theorem dX5_takeNumber_22 : decode cX5_takeNumber 22 = .ok (.aload_n 0, 1) := by decide +kernel
theorem dX5_takeNumber_23 : decode cX5_takeNumber 23 = .ok (.getfield 12, 3) := by decide +kernel
theorem dX5_takeNumber_26 : decode cX5_takeNumber 26 = .ok (.aload_n 0, 1) := by decide +kernel
theorem dX5_takeNumber_27 : decode cX5_takeNumber 27 = .ok (.getfield 18, 3) := by decide +kernel
theorem dX5_takeNumber_30 : decode cX5_takeNumber 30 = .ok (.invokevirtual 83, 3) := by decide +kernel
theorem dX5_takeNumber_33 : decode cX5_takeNumber 33 = .ok (.putfield 22, 3) := by decide +kernel
theorem dX5_takeNumber_36 : decode cX5_takeNumber 36 = .ok (.aload_n 0, 1) := by decide +kernel
theorem dX5_takeNumber_37 : decode cX5_takeNumber 37 = .ok (.getfield 22, 3) := by decide +kernel
theorem dX5_takeNumber_40 : decode cX5_takeNumber 40 = .ok (.iload_n 1, 1) := by decide +kernel
theorem dX5_takeNumber_41 : decode cX5_takeNumber 41 = .ok (.if_icmp .lt 11, 3) := by decide +kernel
theorem dX5_takeNumber_44 : decode cX5_takeNumber 44 = .ok (.aload_n 0, 1) := by decide +kernel
theorem dX5_takeNumber_45 : decode cX5_takeNumber 45 = .ok (.getfield 22, 3) := by decide +kernel
theorem dX5_takeNumber_48 : decode cX5_takeNumber 48 = .ok (.iload_n 2, 1) := by decide +kernel
theorem dX5_takeNumber_49 : decode cX5_takeNumber 49 = .ok (.if_icmp .le 9, 3) := by decide +kernel
theorem dX5_takeNumber_52 : decode cX5_takeNumber 52 = .ok (.aload_n 0, 1) := by decide +kernel
theorem dX5_takeNumber_53 : decode cX5_takeNumber 53 = .ok (.iconst 2, 1) := by decide +kernel
theorem dX5_takeNumber_54 : decode cX5_takeNumber 54 = .ok (.invokevirtual 52, 3) := by decide +kernel
theorem dX5_takeNumber_57 : decode cX5_takeNumber 57 = .ok (.ireturn, 1) := by decide +kernel
theorem dX5_takeNumber_58 : decode cX5_takeNumber 58 = .ok (.aload_n 0, 1) := by decide +kernel
theorem dX5_takeNumber_59 : decode cX5_takeNumber 59 = .ok (.dup, 1) := by decide +kernel
theorem dX5_takeNumber_60 : decode cX5_takeNumber 60 = .ok (.getfield 18, 3) := by decide +kernel
theorem dX5_takeNumber_63 : decode cX5_takeNumber 63 = .ok (.iconst 1, 1) := by decide +kernel
theorem dX5_takeNumber_64 : decode cX5_takeNumber 64 = .ok (.iadd, 1) := by decide +kernel
theorem dX5_takeNumber_65 : decode cX5_takeNumber 65 = .ok (.putfield 18, 3) := by decide +kernel
theorem dX5_takeNumber_68 : decode cX5_takeNumber 68 = .ok (.iconst 1, 1) := by decide +kernel
theorem dX5_takeNumber_69 : decode cX5_takeNumber 69 = .ok (.ireturn, 1) := by decide +kernel
theorem dX5_faultHere_0 : decode cX5_faultHere 0 = .ok (.aload_n 0, 1) := by decide +kernel
theorem dX5_faultHere_1 : decode cX5_faultHere 1 = .ok (.iload_n 1, 1) := by decide +kernel
theorem dX5_faultHere_2 : decode cX5_faultHere 2 = .ok (.putfield 25, 3) := by decide +kernel
theorem dX5_faultHere_5 : decode cX5_faultHere 5 = .ok (.aload_n 0, 1) := by decide +kernel
theorem dX5_faultHere_6 : decode cX5_faultHere 6 = .ok (.aload_n 0, 1) := by decide +kernel
theorem dX5_faultHere_7 : decode cX5_faultHere 7 = .ok (.getfield 12, 3) := by decide +kernel
theorem dX5_faultHere_10 : decode cX5_faultHere 10 = .ok (.aload_n 0, 1) := by decide +kernel
theorem dX5_faultHere_11 : decode cX5_faultHere 11 = .ok (.getfield 18, 3) := by decide +kernel
theorem dX5_faultHere_14 : decode cX5_faultHere 14 = .ok (.invokevirtual 86, 3) := by decide +kernel
theorem dX5_faultHere_17 : decode cX5_faultHere 17 = .ok (.putfield 28, 3) := by decide +kernel
theorem dX5_faultHere_20 : decode cX5_faultHere 20 = .ok (.iconst 0, 1) := by decide +kernel
theorem dX5_faultHere_21 : decode cX5_faultHere 21 = .ok (.ireturn, 1) := by decide +kernel
theorem dX6_init_0 : decode cX6_init 0 = .ok (.aload_n 0, 1) := by decide +kernel
theorem dX6_init_1 : decode cX6_init 1 = .ok (.invokespecial 3, 3) := by decide +kernel
theorem dX6_init_4 : decode cX6_init 4 = .ok (.aload_n 0, 1) := by decide +kernel
theorem dX6_init_5 : decode cX6_init 5 = .ok (.bipush 60, 2) := by decide +kernel
theorem dX6_init_7 : decode cX6_init 7 = .ok (.newarray .int, 2) := by decide +kernel
theorem dX6_init_9 : decode cX6_init 9 = .ok (.putfield 11, 3) := by decide +kernel
theorem dX6_init_12 : decode cX6_init 12 = .ok (.aload_n 0, 1) := by decide +kernel
theorem dX6_init_13 : decode cX6_init 13 = .ok (.bipush 60, 2) := by decide +kernel
theorem dX6_init_15 : decode cX6_init 15 = .ok (.newarray .int, 2) := by decide +kernel
theorem dX6_init_17 : decode cX6_init 17 = .ok (.putfield 15, 3) := by decide +kernel
theorem dX6_init_20 : decode cX6_init 20 = .ok (.aload_n 0, 1) := by decide +kernel
theorem dX6_init_21 : decode cX6_init 21 = .ok (.bipush 60, 2) := by decide +kernel
theorem dX6_init_23 : decode cX6_init 23 = .ok (.newarray .int, 2) := by decide +kernel
theorem dX6_init_25 : decode cX6_init 25 = .ok (.putfield 18, 3) := by decide +kernel
theorem dX6_init_28 : decode cX6_init 28 = .ok (.aload_n 0, 1) := by decide +kernel
theorem dX6_init_29 : decode cX6_init 29 = .ok (.bipush 15, 2) := by decide +kernel
theorem dX6_init_31 : decode cX6_init 31 = .ok (.newarray .int, 2) := by decide +kernel
theorem dX6_init_33 : decode cX6_init 33 = .ok (.putfield 21, 3) := by decide +kernel
theorem dX6_init_36 : decode cX6_init 36 = .ok (.aload_n 0, 1) := by decide +kernel
theorem dX6_init_37 : decode cX6_init 37 = .ok (.bipush 15, 2) := by decide +kernel
theorem dX6_init_39 : decode cX6_init 39 = .ok (.newarray .int, 2) := by decide +kernel
theorem dX6_init_41 : decode cX6_init 41 = .ok (.putfield 24, 3) := by decide +kernel
theorem dX6_init_44 : decode cX6_init 44 = .ok (.aload_n 0, 1) := by decide +kernel
theorem dX6_init_45 : decode cX6_init 45 = .ok (.iconst 0, 1) := by decide +kernel
theorem dX6_init_46 : decode cX6_init 46 = .ok (.putfield 27, 3) := by decide +kernel
theorem dX6_init_49 : decode cX6_init 49 = .ok (.return_, 1) := by decide +kernel
theorem dX6_isFull_0 : decode cX6_isFull 0 = .ok (.aload_n 0, 1) := by decide +kernel
theorem dX6_isFull_1 : decode cX6_isFull 1 = .ok (.getfield 27, 3) := by decide +kernel
theorem dX6_isFull_4 : decode cX6_isFull 4 = .ok (.bipush 15, 2) := by decide +kernel
theorem dX6_isFull_6 : decode cX6_isFull 6 = .ok (.if_icmp .lt 7, 3) := by decide +kernel
theorem dX6_isFull_9 : decode cX6_isFull 9 = .ok (.iconst 1, 1) := by decide +kernel
theorem dX6_isFull_10 : decode cX6_isFull 10 = .ok (.goto 4, 3) := by decide +kernel
theorem dX6_isFull_13 : decode cX6_isFull 13 = .ok (.iconst 0, 1) := by decide +kernel
theorem dX6_isFull_14 : decode cX6_isFull 14 = .ok (.ireturn, 1) := by decide +kernel
theorem dX6_beginRule_0 : decode cX6_beginRule 0 = .ok (.aload_n 0, 1) := by decide +kernel
theorem dX6_beginRule_1 : decode cX6_beginRule 1 = .ok (.invokevirtual 31, 3) := by decide +kernel
theorem dX6_beginRule_4 : decode cX6_beginRule 4 = .ok (.ifCond .ne 13, 3) := by decide +kernel
theorem dX6_beginRule_7 : decode cX6_beginRule 7 = .ok (.aload_n 0, 1) := by decide +kernel
theorem dX6_beginRule_8 : decode cX6_beginRule 8 = .ok (.getfield 21, 3) := by decide +kernel
theorem dX6_beginRule_11 : decode cX6_beginRule 11 = .ok (.aload_n 0, 1) := by decide +kernel
theorem dX6_beginRule_12 : decode cX6_beginRule 12 = .ok (.getfield 27, 3) := by decide +kernel
theorem dX6_beginRule_15 : decode cX6_beginRule 15 = .ok (.iconst 0, 1) := by decide +kernel
theorem dX6_beginRule_16 : decode cX6_beginRule 16 = .ok (.iastore, 1) := by decide +kernel
theorem dX6_beginRule_17 : decode cX6_beginRule 17 = .ok (.return_, 1) := by decide +kernel
theorem dX6_addTest_0 : decode cX6_addTest 0 = .ok (.aload_n 0, 1) := by decide +kernel
theorem dX6_addTest_1 : decode cX6_addTest 1 = .ok (.invokevirtual 31, 3) := by decide +kernel
theorem dX6_addTest_4 : decode cX6_addTest 4 = .ok (.ifCond .ne 71, 3) := by decide +kernel
theorem dX6_addTest_7 : decode cX6_addTest 7 = .ok (.aload_n 0, 1) := by decide +kernel
theorem dX6_addTest_8 : decode cX6_addTest 8 = .ok (.getfield 21, 3) := by decide +kernel
theorem dX6_addTest_11 : decode cX6_addTest 11 = .ok (.aload_n 0, 1) := by decide +kernel
theorem dX6_addTest_12 : decode cX6_addTest 12 = .ok (.getfield 27, 3) := by decide +kernel
theorem dX6_addTest_15 : decode cX6_addTest 15 = .ok (.iaload, 1) := by decide +kernel
theorem dX6_addTest_16 : decode cX6_addTest 16 = .ok (.iconst 4, 1) := by decide +kernel
theorem dX6_addTest_17 : decode cX6_addTest 17 = .ok (.if_icmp .ge 58, 3) := by decide +kernel
theorem dX6_addTest_20 : decode cX6_addTest 20 = .ok (.aload_n 0, 1) := by decide +kernel
theorem dX6_addTest_21 : decode cX6_addTest 21 = .ok (.getfield 27, 3) := by decide +kernel
theorem dX6_addTest_24 : decode cX6_addTest 24 = .ok (.iconst 4, 1) := by decide +kernel
theorem dX6_addTest_25 : decode cX6_addTest 25 = .ok (.imul, 1) := by decide +kernel
theorem dX6_addTest_26 : decode cX6_addTest 26 = .ok (.aload_n 0, 1) := by decide +kernel
theorem dX6_addTest_27 : decode cX6_addTest 27 = .ok (.getfield 21, 3) := by decide +kernel
theorem dX6_addTest_30 : decode cX6_addTest 30 = .ok (.aload_n 0, 1) := by decide +kernel
theorem dX6_addTest_31 : decode cX6_addTest 31 = .ok (.getfield 27, 3) := by decide +kernel
theorem dX6_addTest_34 : decode cX6_addTest 34 = .ok (.iaload, 1) := by decide +kernel
theorem dX6_addTest_35 : decode cX6_addTest 35 = .ok (.iadd, 1) := by decide +kernel
theorem dX6_addTest_36 : decode cX6_addTest 36 = .ok (.istore 4, 2) := by decide +kernel
theorem dX6_addTest_38 : decode cX6_addTest 38 = .ok (.aload_n 0, 1) := by decide +kernel
theorem dX6_addTest_39 : decode cX6_addTest 39 = .ok (.getfield 11, 3) := by decide +kernel
theorem dX6_addTest_42 : decode cX6_addTest 42 = .ok (.iload 4, 2) := by decide +kernel
theorem dX6_addTest_44 : decode cX6_addTest 44 = .ok (.iload_n 1, 1) := by decide +kernel
theorem dX6_addTest_45 : decode cX6_addTest 45 = .ok (.iastore, 1) := by decide +kernel
theorem dX6_addTest_46 : decode cX6_addTest 46 = .ok (.aload_n 0, 1) := by decide +kernel
theorem dX6_addTest_47 : decode cX6_addTest 47 = .ok (.getfield 15, 3) := by decide +kernel
theorem dX6_addTest_50 : decode cX6_addTest 50 = .ok (.iload 4, 2) := by decide +kernel
theorem dX6_addTest_52 : decode cX6_addTest 52 = .ok (.iload_n 2, 1) := by decide +kernel
theorem dX6_addTest_53 : decode cX6_addTest 53 = .ok (.iastore, 1) := by decide +kernel
theorem dX6_addTest_54 : decode cX6_addTest 54 = .ok (.aload_n 0, 1) := by decide +kernel
theorem dX6_addTest_55 : decode cX6_addTest 55 = .ok (.getfield 18, 3) := by decide +kernel
theorem dX6_addTest_58 : decode cX6_addTest 58 = .ok (.iload 4, 2) := by decide +kernel
theorem dX6_addTest_60 : decode cX6_addTest 60 = .ok (.iload_n 3, 1) := by decide +kernel
theorem dX6_addTest_61 : decode cX6_addTest 61 = .ok (.iastore, 1) := by decide +kernel
theorem dX6_addTest_62 : decode cX6_addTest 62 = .ok (.aload_n 0, 1) := by decide +kernel
theorem dX6_addTest_63 : decode cX6_addTest 63 = .ok (.getfield 21, 3) := by decide +kernel
theorem dX6_addTest_66 : decode cX6_addTest 66 = .ok (.aload_n 0, 1) := by decide +kernel
theorem dX6_addTest_67 : decode cX6_addTest 67 = .ok (.getfield 27, 3) := by decide +kernel
theorem dX6_addTest_70 : decode cX6_addTest 70 = .ok (.dup2, 1) := by decide +kernel
theorem dX6_addTest_71 : decode cX6_addTest 71 = .ok (.iaload, 1) := by decide +kernel
theorem dX6_addTest_72 : decode cX6_addTest 72 = .ok (.iconst 1, 1) := by decide +kernel
theorem dX6_addTest_73 : decode cX6_addTest 73 = .ok (.iadd, 1) := by decide +kernel
theorem dX6_addTest_74 : decode cX6_addTest 74 = .ok (.iastore, 1) := by decide +kernel
theorem dX6_addTest_75 : decode cX6_addTest 75 = .ok (.return_, 1) := by decide +kernel
theorem dX6_endRule_0 : decode cX6_endRule 0 = .ok (.aload_n 0, 1) := by decide +kernel
theorem dX6_endRule_1 : decode cX6_endRule 1 = .ok (.invokevirtual 31, 3) := by decide +kernel
theorem dX6_endRule_4 : decode cX6_endRule 4 = .ok (.ifCond .ne 23, 3) := by decide +kernel
theorem dX6_endRule_7 : decode cX6_endRule 7 = .ok (.aload_n 0, 1) := by decide +kernel
theorem dX6_endRule_8 : decode cX6_endRule 8 = .ok (.getfield 24, 3) := by decide +kernel
theorem dX6_endRule_11 : decode cX6_endRule 11 = .ok (.aload_n 0, 1) := by decide +kernel
theorem dX6_endRule_12 : decode cX6_endRule 12 = .ok (.getfield 27, 3) := by decide +kernel
theorem dX6_endRule_15 : decode cX6_endRule 15 = .ok (.iload_n 1, 1) := by decide +kernel
theorem dX6_endRule_16 : decode cX6_endRule 16 = .ok (.iastore, 1) := by decide +kernel
theorem dX6_endRule_17 : decode cX6_endRule 17 = .ok (.aload_n 0, 1) := by decide +kernel
theorem dX6_endRule_18 : decode cX6_endRule 18 = .ok (.dup, 1) := by decide +kernel
theorem dX6_endRule_19 : decode cX6_endRule 19 = .ok (.getfield 27, 3) := by decide +kernel
theorem dX6_endRule_22 : decode cX6_endRule 22 = .ok (.iconst 1, 1) := by decide +kernel
theorem dX6_endRule_23 : decode cX6_endRule 23 = .ok (.iadd, 1) := by decide +kernel
theorem dX6_endRule_24 : decode cX6_endRule 24 = .ok (.putfield 27, 3) := by decide +kernel
theorem dX6_endRule_27 : decode cX6_endRule 27 = .ok (.return_, 1) := by decide +kernel
theorem dX6_hasRule_0 : decode cX6_hasRule 0 = .ok (.iload_n 1, 1) := by decide +kernel
theorem dX6_hasRule_1 : decode cX6_hasRule 1 = .ok (.ifCond .lt 15, 3) := by decide +kernel
theorem dX6_hasRule_4 : decode cX6_hasRule 4 = .ok (.iload_n 1, 1) := by decide +kernel
theorem dX6_hasRule_5 : decode cX6_hasRule 5 = .ok (.aload_n 0, 1) := by decide +kernel
theorem dX6_hasRule_6 : decode cX6_hasRule 6 = .ok (.getfield 27, 3) := by decide +kernel
theorem dX6_hasRule_9 : decode cX6_hasRule 9 = .ok (.if_icmp .ge 7, 3) := by decide +kernel
theorem dX6_hasRule_12 : decode cX6_hasRule 12 = .ok (.iconst 1, 1) := by decide +kernel
theorem dX6_hasRule_13 : decode cX6_hasRule 13 = .ok (.goto 4, 3) := by decide +kernel
theorem dX6_hasRule_16 : decode cX6_hasRule 16 = .ok (.iconst 0, 1) := by decide +kernel
theorem dX6_hasRule_17 : decode cX6_hasRule 17 = .ok (.ireturn, 1) := by decide +kernel
theorem dX6_numberSaid_0 : decode cX6_numberSaid 0 = .ok (.aload_n 0, 1) := by decide +kernel
theorem dX6_numberSaid_1 : decode cX6_numberSaid 1 = .ok (.iload_n 1, 1) := by decide +kernel
theorem dX6_numberSaid_2 : decode cX6_numberSaid 2 = .ok (.invokevirtual 35, 3) := by decide +kernel
theorem dX6_numberSaid_5 : decode cX6_numberSaid 5 = .ok (.ifCond .eq 12, 3) := by decide +kernel
theorem dX6_numberSaid_8 : decode cX6_numberSaid 8 = .ok (.aload_n 0, 1) := by decide +kernel
theorem dX6_numberSaid_9 : decode cX6_numberSaid 9 = .ok (.getfield 24, 3) := by decide +kernel
theorem dX6_numberSaid_12 : decode cX6_numberSaid 12 = .ok (.iload_n 1, 1) := by decide +kernel
theorem dX6_numberSaid_13 : decode cX6_numberSaid 13 = .ok (.iaload, 1) := by decide +kernel
theorem dX6_numberSaid_14 : decode cX6_numberSaid 14 = .ok (.goto 5, 3) := by decide +kernel
theorem dX6_numberSaid_17 : decode cX6_numberSaid 17 = .ok (.ldc 39, 2) := by decide +kernel
theorem dX6_numberSaid_19 : decode cX6_numberSaid 19 = .ok (.ireturn, 1) := by decide +kernel
theorem dX6_firstThatHolds_0 : decode cX6_firstThatHolds 0 = .ok (.iconst 0, 1) := by decide +kernel
theorem dX6_firstThatHolds_1 : decode cX6_firstThatHolds 1 = .ok (.istore_n 3, 1) := by decide +kernel
theorem dX6_firstThatHolds_2 : decode cX6_firstThatHolds 2 = .ok (.iload_n 3, 1) := by decide +kernel
theorem dX6_firstThatHolds_3 : decode cX6_firstThatHolds 3 = .ok (.aload_n 0, 1) := by decide +kernel
theorem dX6_firstThatHolds_4 : decode cX6_firstThatHolds 4 = .ok (.getfield 27, 3) := by decide +kernel
theorem dX6_firstThatHolds_7 : decode cX6_firstThatHolds 7 = .ok (.if_icmp .ge 20, 3) := by decide +kernel
theorem dX6_firstThatHolds_10 : decode cX6_firstThatHolds 10 = .ok (.aload_n 0, 1) := by decide +kernel
theorem dX6_firstThatHolds_11 : decode cX6_firstThatHolds 11 = .ok (.iload_n 3, 1) := by decide +kernel
theorem dX6_firstThatHolds_12 : decode cX6_firstThatHolds 12 = .ok (.lload_n 1, 1) := by decide +kernel
theorem dX6_firstThatHolds_13 : decode cX6_firstThatHolds 13 = .ok (.invokevirtual 40, 3) := by decide +kernel
theorem dX6_firstThatHolds_16 : decode cX6_firstThatHolds 16 = .ok (.ifCond .eq 5, 3) := by decide +kernel
theorem dX6_firstThatHolds_19 : decode cX6_firstThatHolds 19 = .ok (.iload_n 3, 1) := by decide +kernel
theorem dX6_firstThatHolds_20 : decode cX6_firstThatHolds 20 = .ok (.ireturn, 1) := by decide +kernel
theorem dX6_firstThatHolds_21 : decode cX6_firstThatHolds 21 = .ok (.iinc 3 1, 3) := by decide +kernel
theorem dX6_firstThatHolds_24 : decode cX6_firstThatHolds 24 = .ok (.goto (-22), 3) := by decide +kernel
theorem dX6_firstThatHolds_27 : decode cX6_firstThatHolds 27 = .ok (.ldc 39, 2) := by decide +kernel
theorem dX6_firstThatHolds_29 : decode cX6_firstThatHolds 29 = .ok (.ireturn, 1) := by decide +kernel
theorem dX6_isTrueOf_0 : decode cX6_isTrueOf 0 = .ok (.aload_n 0, 1) := by decide +kernel
theorem dX6_isTrueOf_1 : decode cX6_isTrueOf 1 = .ok (.iload_n 1, 1) := by decide +kernel
theorem dX6_isTrueOf_2 : decode cX6_isTrueOf 2 = .ok (.invokevirtual 35, 3) := by decide +kernel
theorem dX6_isTrueOf_5 : decode cX6_isTrueOf 5 = .ok (.ifCond .ne 5, 3) := by decide +kernel
theorem dX6_isTrueOf_8 : decode cX6_isTrueOf 8 = .ok (.iconst 0, 1) := by decide +kernel
theorem dX6_isTrueOf_9 : decode cX6_isTrueOf 9 = .ok (.ireturn, 1) := by decide +kernel
theorem dX6_isTrueOf_10 : decode cX6_isTrueOf 10 = .ok (.iconst 0, 1) := by decide +kernel
theorem dX6_isTrueOf_11 : decode cX6_isTrueOf 11 = .ok (.istore 4, 2) := by decide +kernel
theorem dX6_isTrueOf_13 : decode cX6_isTrueOf 13 = .ok (.iload 4, 2) := by decide +kernel
theorem dX6_isTrueOf_15 : decode cX6_isTrueOf 15 = .ok (.aload_n 0, 1) := by decide +kernel
theorem dX6_isTrueOf_16 : decode cX6_isTrueOf 16 = .ok (.getfield 21, 3) := by decide +kernel
theorem dX6_isTrueOf_19 : decode cX6_isTrueOf 19 = .ok (.iload_n 1, 1) := by decide +kernel
theorem dX6_isTrueOf_20 : decode cX6_isTrueOf 20 = .ok (.iaload, 1) := by decide +kernel
theorem dX6_isTrueOf_21 : decode cX6_isTrueOf 21 = .ok (.if_icmp .ge 47, 3) := by decide +kernel
theorem dX6_isTrueOf_24 : decode cX6_isTrueOf 24 = .ok (.iload_n 1, 1) := by decide +kernel
theorem dX6_isTrueOf_25 : decode cX6_isTrueOf 25 = .ok (.iconst 4, 1) := by decide +kernel
theorem dX6_isTrueOf_26 : decode cX6_isTrueOf 26 = .ok (.imul, 1) := by decide +kernel
theorem dX6_isTrueOf_27 : decode cX6_isTrueOf 27 = .ok (.iload 4, 2) := by decide +kernel
theorem dX6_isTrueOf_29 : decode cX6_isTrueOf 29 = .ok (.iadd, 1) := by decide +kernel
theorem dX6_isTrueOf_30 : decode cX6_isTrueOf 30 = .ok (.istore 5, 2) := by decide +kernel
theorem dX6_isTrueOf_32 : decode cX6_isTrueOf 32 = .ok (.aload_n 0, 1) := by decide +kernel
theorem dX6_isTrueOf_33 : decode cX6_isTrueOf 33 = .ok (.getfield 11, 3) := by decide +kernel
theorem dX6_isTrueOf_36 : decode cX6_isTrueOf 36 = .ok (.iload 5, 2) := by decide +kernel
theorem dX6_isTrueOf_38 : decode cX6_isTrueOf 38 = .ok (.iaload, 1) := by decide +kernel
theorem dX6_isTrueOf_39 : decode cX6_isTrueOf 39 = .ok (.aload_n 0, 1) := by decide +kernel
theorem dX6_isTrueOf_40 : decode cX6_isTrueOf 40 = .ok (.getfield 15, 3) := by decide +kernel
theorem dX6_isTrueOf_43 : decode cX6_isTrueOf 43 = .ok (.iload 5, 2) := by decide +kernel
theorem dX6_isTrueOf_45 : decode cX6_isTrueOf 45 = .ok (.iaload, 1) := by decide +kernel
theorem dX6_isTrueOf_46 : decode cX6_isTrueOf 46 = .ok (.aload_n 0, 1) := by decide +kernel
theorem dX6_isTrueOf_47 : decode cX6_isTrueOf 47 = .ok (.getfield 18, 3) := by decide +kernel
theorem dX6_isTrueOf_50 : decode cX6_isTrueOf 50 = .ok (.iload 5, 2) := by decide +kernel
theorem dX6_isTrueOf_52 : decode cX6_isTrueOf 52 = .ok (.iaload, 1) := by decide +kernel
theorem dX6_isTrueOf_53 : decode cX6_isTrueOf 53 = .ok (.lload_n 2, 1) := by decide +kernel
theorem dX6_isTrueOf_54 : decode cX6_isTrueOf 54 = .ok (.invokestatic 44, 3) := by decide +kernel
theorem dX6_isTrueOf_57 : decode cX6_isTrueOf 57 = .ok (.ifCond .ne 5, 3) := by decide +kernel
theorem dX6_isTrueOf_60 : decode cX6_isTrueOf 60 = .ok (.iconst 0, 1) := by decide +kernel
theorem dX6_isTrueOf_61 : decode cX6_isTrueOf 61 = .ok (.ireturn, 1) := by decide +kernel
theorem dX6_isTrueOf_62 : decode cX6_isTrueOf 62 = .ok (.iinc 4 1, 3) := by decide +kernel
theorem dX6_isTrueOf_65 : decode cX6_isTrueOf 65 = .ok (.goto (-52), 3) := by decide +kernel
theorem dX6_isTrueOf_68 : decode cX6_isTrueOf 68 = .ok (.iconst 1, 1) := by decide +kernel
theorem dX6_isTrueOf_69 : decode cX6_isTrueOf 69 = .ok (.ireturn, 1) := by decide +kernel
theorem dX6_testIsTrue_0 : decode cX6_testIsTrue 0 = .ok (.iload_n 0, 1) := by decide +kernel
theorem dX6_testIsTrue_1 : decode cX6_testIsTrue 1 = .ok (.lookupswitch 108 #[(6711655, 43), (1702258030, 99), (1885434739, 77), (1935764837, 58)], 43) := by decide +kernel
theorem dX6_testIsTrue_44 : decode cX6_testIsTrue 44 = .ok (.lload_n 3, 1) := by decide +kernel
theorem dX6_testIsTrue_45 : decode cX6_testIsTrue 45 = .ok (.iload_n 2, 1) := by decide +kernel
theorem dX6_testIsTrue_46 : decode cX6_testIsTrue 46 = .ok (.invokestatic 48, 3) := by decide +kernel
theorem dX6_testIsTrue_49 : decode cX6_testIsTrue 49 = .ok (.iload_n 1, 1) := by decide +kernel
theorem dX6_testIsTrue_50 : decode cX6_testIsTrue 50 = .ok (.if_icmp .ne 7, 3) := by decide +kernel
theorem dX6_testIsTrue_53 : decode cX6_testIsTrue 53 = .ok (.iconst 1, 1) := by decide +kernel
theorem dX6_testIsTrue_54 : decode cX6_testIsTrue 54 = .ok (.goto 4, 3) := by decide +kernel
theorem dX6_testIsTrue_57 : decode cX6_testIsTrue 57 = .ok (.iconst 0, 1) := by decide +kernel
theorem dX6_testIsTrue_58 : decode cX6_testIsTrue 58 = .ok (.ireturn, 1) := by decide +kernel
theorem dX6_testIsTrue_59 : decode cX6_testIsTrue 59 = .ok (.lload_n 3, 1) := by decide +kernel
theorem dX6_testIsTrue_60 : decode cX6_testIsTrue 60 = .ok (.iload_n 1, 1) := by decide +kernel
theorem dX6_testIsTrue_61 : decode cX6_testIsTrue 61 = .ok (.invokestatic 48, 3) := by decide +kernel
theorem dX6_testIsTrue_64 : decode cX6_testIsTrue 64 = .ok (.lload_n 3, 1) := by decide +kernel
theorem dX6_testIsTrue_65 : decode cX6_testIsTrue 65 = .ok (.iload_n 2, 1) := by decide +kernel
theorem dX6_testIsTrue_66 : decode cX6_testIsTrue 66 = .ok (.invokestatic 48, 3) := by decide +kernel
theorem dX6_testIsTrue_69 : decode cX6_testIsTrue 69 = .ok (.if_icmp .ne 7, 3) := by decide +kernel
theorem dX6_testIsTrue_72 : decode cX6_testIsTrue 72 = .ok (.iconst 1, 1) := by decide +kernel
theorem dX6_testIsTrue_73 : decode cX6_testIsTrue 73 = .ok (.goto 4, 3) := by decide +kernel
theorem dX6_testIsTrue_76 : decode cX6_testIsTrue 76 = .ok (.iconst 0, 1) := by decide +kernel
theorem dX6_testIsTrue_77 : decode cX6_testIsTrue 77 = .ok (.ireturn, 1) := by decide +kernel
theorem dX6_testIsTrue_78 : decode cX6_testIsTrue 78 = .ok (.lload_n 3, 1) := by decide +kernel
theorem dX6_testIsTrue_79 : decode cX6_testIsTrue 79 = .ok (.lload_n 3, 1) := by decide +kernel
theorem dX6_testIsTrue_80 : decode cX6_testIsTrue 80 = .ok (.iconst 0, 1) := by decide +kernel
theorem dX6_testIsTrue_81 : decode cX6_testIsTrue 81 = .ok (.invokestatic 48, 3) := by decide +kernel
theorem dX6_testIsTrue_84 : decode cX6_testIsTrue 84 = .ok (.iconst 1, 1) := by decide +kernel
theorem dX6_testIsTrue_85 : decode cX6_testIsTrue 85 = .ok (.bipush 11, 2) := by decide +kernel
theorem dX6_testIsTrue_87 : decode cX6_testIsTrue 87 = .ok (.invokestatic 54, 3) := by decide +kernel
theorem dX6_testIsTrue_90 : decode cX6_testIsTrue 90 = .ok (.iload_n 1, 1) := by decide +kernel
theorem dX6_testIsTrue_91 : decode cX6_testIsTrue 91 = .ok (.if_icmp .lt 7, 3) := by decide +kernel
theorem dX6_testIsTrue_94 : decode cX6_testIsTrue 94 = .ok (.iconst 1, 1) := by decide +kernel
theorem dX6_testIsTrue_95 : decode cX6_testIsTrue 95 = .ok (.goto 4, 3) := by decide +kernel
theorem dX6_testIsTrue_98 : decode cX6_testIsTrue 98 = .ok (.iconst 0, 1) := by decide +kernel
theorem dX6_testIsTrue_99 : decode cX6_testIsTrue 99 = .ok (.ireturn, 1) := by decide +kernel
theorem dX6_testIsTrue_100 : decode cX6_testIsTrue 100 = .ok (.lload_n 3, 1) := by decide +kernel
theorem dX6_testIsTrue_101 : decode cX6_testIsTrue 101 = .ok (.iload_n 1, 1) := by decide +kernel
theorem dX6_testIsTrue_102 : decode cX6_testIsTrue 102 = .ok (.invokestatic 48, 3) := by decide +kernel
theorem dX6_testIsTrue_105 : decode cX6_testIsTrue 105 = .ok (.invokestatic 58, 3) := by decide +kernel
theorem dX6_testIsTrue_108 : decode cX6_testIsTrue 108 = .ok (.ireturn, 1) := by decide +kernel
theorem dX6_testIsTrue_109 : decode cX6_testIsTrue 109 = .ok (.iconst 0, 1) := by decide +kernel
theorem dX6_testIsTrue_110 : decode cX6_testIsTrue 110 = .ok (.ireturn, 1) := by decide +kernel
theorem dX7_init_0 : decode cX7_init 0 = .ok (.aload_n 0, 1) := by decide +kernel
theorem dX7_init_1 : decode cX7_init 1 = .ok (.invokespecial 3, 3) := by decide +kernel
theorem dX7_init_4 : decode cX7_init 4 = .ok (.aload_n 0, 1) := by decide +kernel
theorem dX7_init_5 : decode cX7_init 5 = .ok (.bipush 60, 2) := by decide +kernel
theorem dX7_init_7 : decode cX7_init 7 = .ok (.newarray .int, 2) := by decide +kernel
theorem dX7_init_9 : decode cX7_init 9 = .ok (.putfield 11, 3) := by decide +kernel
theorem dX7_init_12 : decode cX7_init 12 = .ok (.aload_n 0, 1) := by decide +kernel
theorem dX7_init_13 : decode cX7_init 13 = .ok (.iconst (-1), 1) := by decide +kernel
theorem dX7_init_14 : decode cX7_init 14 = .ok (.putfield 15, 3) := by decide +kernel
theorem dX7_init_17 : decode cX7_init 17 = .ok (.aload_n 0, 1) := by decide +kernel
theorem dX7_init_18 : decode cX7_init 18 = .ok (.iconst 0, 1) := by decide +kernel
theorem dX7_init_19 : decode cX7_init 19 = .ok (.putfield 19, 3) := by decide +kernel
theorem dX7_init_22 : decode cX7_init 22 = .ok (.return_, 1) := by decide +kernel
theorem dX7_isLane_0 : decode cX7_isLane 0 = .ok (.iload_n 0, 1) := by decide +kernel
theorem dX7_isLane_1 : decode cX7_isLane 1 = .ok (.ifCond .lt 12, 3) := by decide +kernel
theorem dX7_isLane_4 : decode cX7_isLane 4 = .ok (.iload_n 0, 1) := by decide +kernel
theorem dX7_isLane_5 : decode cX7_isLane 5 = .ok (.iconst 2, 1) := by decide +kernel
theorem dX7_isLane_6 : decode cX7_isLane 6 = .ok (.if_icmp .gt 7, 3) := by decide +kernel
theorem dX7_isLane_9 : decode cX7_isLane 9 = .ok (.iconst 1, 1) := by decide +kernel
