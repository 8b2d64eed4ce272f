theorem dX0_init_0 : decode cX0_init 0 = .ok (.aload_n 0, 1) := by decide +kernel
theorem dX0_init_1 : decode cX0_init 1 = .ok (.invokespecial 3, 3) := by decide +kernel
theorem dX0_init_4 : decode cX0_init 4 = .ok (.aload_n 0, 1) := by decide +kernel
theorem dX0_init_5 : decode cX0_init 5 = .ok (.iconst 1, 1) := by decide +kernel
theorem dX0_init_6 : decode cX0_init 6 = .ok (.putfield 9, 3) := by decide +kernel
theorem dX0_init_9 : decode cX0_init 9 = .ok (.aload_n 0, 1) := by decide +kernel
theorem dX0_init_10 : decode cX0_init 10 = .ok (.iconst 1, 1) := by decide +kernel
theorem dX0_init_11 : decode cX0_init 11 = .ok (.putfield 15, 3) := by decide +kernel
theorem dX0_init_14 : decode cX0_init 14 = .ok (.aload_n 0, 1) := by decide +kernel
theorem dX0_init_15 : decode cX0_init 15 = .ok (.sipush 128, 3) := by decide +kernel
theorem dX0_init_18 : decode cX0_init 18 = .ok (.newarray .int, 2) := by decide +kernel
theorem dX0_init_20 : decode cX0_init 20 = .ok (.putfield 18, 3) := by decide +kernel
theorem dX0_init_23 : decode cX0_init 23 = .ok (.return_, 1) := by decide +kernel
theorem dX0_clear_0 : decode cX0_clear 0 = .ok (.iload_n 1, 1) := by decide +kernel
theorem dX0_clear_1 : decode cX0_clear 1 = .ok (.invokestatic 22, 3) := by decide +kernel
theorem dX0_clear_4 : decode cX0_clear 4 = .ok (.ifCond .eq 20, 3) := by decide +kernel
theorem dX0_clear_7 : decode cX0_clear 7 = .ok (.iload_n 2, 1) := by decide +kernel
theorem dX0_clear_8 : decode cX0_clear 8 = .ok (.invokestatic 22, 3) := by decide +kernel
theorem dX0_clear_11 : decode cX0_clear 11 = .ok (.ifCond .eq 13, 3) := by decide +kernel
theorem dX0_clear_14 : decode cX0_clear 14 = .ok (.aload_n 0, 1) := by decide +kernel
theorem dX0_clear_15 : decode cX0_clear 15 = .ok (.iload_n 1, 1) := by decide +kernel
theorem dX0_clear_16 : decode cX0_clear 16 = .ok (.putfield 9, 3) := by decide +kernel
theorem dX0_clear_19 : decode cX0_clear 19 = .ok (.aload_n 0, 1) := by decide +kernel
theorem dX0_clear_20 : decode cX0_clear 20 = .ok (.iload_n 2, 1) := by decide +kernel
theorem dX0_clear_21 : decode cX0_clear 21 = .ok (.putfield 15, 3) := by decide +kernel
theorem dX0_clear_24 : decode cX0_clear 24 = .ok (.aload_n 0, 1) := by decide +kernel
theorem dX0_clear_25 : decode cX0_clear 25 = .ok (.getfield 18, 3) := by decide +kernel
theorem dX0_clear_28 : decode cX0_clear 28 = .ok (.iconst 0, 1) := by decide +kernel
theorem dX0_clear_29 : decode cX0_clear 29 = .ok (.invokestatic 26, 3) := by decide +kernel
theorem dX0_clear_32 : decode cX0_clear 32 = .ok (.return_, 1) := by decide +kernel
theorem dX0_isPoint_0 : decode cX0_isPoint 0 = .ok (.iload_n 1, 1) := by decide +kernel
theorem dX0_isPoint_1 : decode cX0_isPoint 1 = .ok (.ifCond .lt 40, 3) := by decide +kernel
theorem dX0_isPoint_4 : decode cX0_isPoint 4 = .ok (.iload_n 1, 1) := by decide +kernel
theorem dX0_isPoint_5 : decode cX0_isPoint 5 = .ok (.iconst 2, 1) := by decide +kernel
theorem dX0_isPoint_6 : decode cX0_isPoint 6 = .ok (.aload_n 0, 1) := by decide +kernel
theorem dX0_isPoint_7 : decode cX0_isPoint 7 = .ok (.getfield 9, 3) := by decide +kernel
theorem dX0_isPoint_10 : decode cX0_isPoint 10 = .ok (.imul, 1) := by decide +kernel
theorem dX0_isPoint_11 : decode cX0_isPoint 11 = .ok (.if_icmp .gt 30, 3) := by decide +kernel
theorem dX0_isPoint_14 : decode cX0_isPoint 14 = .ok (.iload_n 2, 1) := by decide +kernel
theorem dX0_isPoint_15 : decode cX0_isPoint 15 = .ok (.ifCond .lt 26, 3) := by decide +kernel
theorem dX0_isPoint_18 : decode cX0_isPoint 18 = .ok (.iload_n 2, 1) := by decide +kernel
theorem dX0_isPoint_19 : decode cX0_isPoint 19 = .ok (.iconst 2, 1) := by decide +kernel
theorem dX0_isPoint_20 : decode cX0_isPoint 20 = .ok (.aload_n 0, 1) := by decide +kernel
theorem dX0_isPoint_21 : decode cX0_isPoint 21 = .ok (.getfield 15, 3) := by decide +kernel
theorem dX0_isPoint_24 : decode cX0_isPoint 24 = .ok (.imul, 1) := by decide +kernel
theorem dX0_isPoint_25 : decode cX0_isPoint 25 = .ok (.if_icmp .gt 16, 3) := by decide +kernel
theorem dX0_isPoint_28 : decode cX0_isPoint 28 = .ok (.iload_n 1, 1) := by decide +kernel
theorem dX0_isPoint_29 : decode cX0_isPoint 29 = .ok (.iload_n 2, 1) := by decide +kernel
theorem dX0_isPoint_30 : decode cX0_isPoint 30 = .ok (.iadd, 1) := by decide +kernel
theorem dX0_isPoint_31 : decode cX0_isPoint 31 = .ok (.iconst 1, 1) := by decide +kernel
theorem dX0_isPoint_32 : decode cX0_isPoint 32 = .ok (.iand, 1) := by decide +kernel
theorem dX0_isPoint_33 : decode cX0_isPoint 33 = .ok (.iconst 1, 1) := by decide +kernel
theorem dX0_isPoint_34 : decode cX0_isPoint 34 = .ok (.if_icmp .ne 7, 3) := by decide +kernel
theorem dX0_isPoint_37 : decode cX0_isPoint 37 = .ok (.iconst 1, 1) := by decide +kernel
theorem dX0_isPoint_38 : decode cX0_isPoint 38 = .ok (.goto 4, 3) := by decide +kernel
theorem dX0_isPoint_41 : decode cX0_isPoint 41 = .ok (.iconst 0, 1) := by decide +kernel
theorem dX0_isPoint_42 : decode cX0_isPoint 42 = .ok (.ireturn, 1) := by decide +kernel
theorem dX0_isInner_0 : decode cX0_isInner 0 = .ok (.iload_n 1, 1) := by decide +kernel
theorem dX0_isInner_1 : decode cX0_isInner 1 = .ok (.ifCond .le 40, 3) := by decide +kernel
theorem dX0_isInner_4 : decode cX0_isInner 4 = .ok (.iload_n 1, 1) := by decide +kernel
theorem dX0_isInner_5 : decode cX0_isInner 5 = .ok (.iconst 2, 1) := by decide +kernel
theorem dX0_isInner_6 : decode cX0_isInner 6 = .ok (.aload_n 0, 1) := by decide +kernel
theorem dX0_isInner_7 : decode cX0_isInner 7 = .ok (.getfield 9, 3) := by decide +kernel
theorem dX0_isInner_10 : decode cX0_isInner 10 = .ok (.imul, 1) := by decide +kernel
theorem dX0_isInner_11 : decode cX0_isInner 11 = .ok (.if_icmp .ge 30, 3) := by decide +kernel
theorem dX0_isInner_14 : decode cX0_isInner 14 = .ok (.iload_n 2, 1) := by decide +kernel
theorem dX0_isInner_15 : decode cX0_isInner 15 = .ok (.ifCond .le 26, 3) := by decide +kernel
theorem dX0_isInner_18 : decode cX0_isInner 18 = .ok (.iload_n 2, 1) := by decide +kernel
theorem dX0_isInner_19 : decode cX0_isInner 19 = .ok (.iconst 2, 1) := by decide +kernel
theorem dX0_isInner_20 : decode cX0_isInner 20 = .ok (.aload_n 0, 1) := by decide +kernel
theorem dX0_isInner_21 : decode cX0_isInner 21 = .ok (.getfield 15, 3) := by decide +kernel
theorem dX0_isInner_24 : decode cX0_isInner 24 = .ok (.imul, 1) := by decide +kernel
theorem dX0_isInner_25 : decode cX0_isInner 25 = .ok (.if_icmp .ge 16, 3) := by decide +kernel
theorem dX0_isInner_28 : decode cX0_isInner 28 = .ok (.iload_n 1, 1) := by decide +kernel
theorem dX0_isInner_29 : decode cX0_isInner 29 = .ok (.iload_n 2, 1) := by decide +kernel
theorem dX0_isInner_30 : decode cX0_isInner 30 = .ok (.iadd, 1) := by decide +kernel
theorem dX0_isInner_31 : decode cX0_isInner 31 = .ok (.iconst 1, 1) := by decide +kernel
theorem dX0_isInner_32 : decode cX0_isInner 32 = .ok (.iand, 1) := by decide +kernel
theorem dX0_isInner_33 : decode cX0_isInner 33 = .ok (.iconst 1, 1) := by decide +kernel
theorem dX0_isInner_34 : decode cX0_isInner 34 = .ok (.if_icmp .ne 7, 3) := by decide +kernel
theorem dX0_isInner_37 : decode cX0_isInner 37 = .ok (.iconst 1, 1) := by decide +kernel
theorem dX0_isInner_38 : decode cX0_isInner 38 = .ok (.goto 4, 3) := by decide +kernel
theorem dX0_isInner_41 : decode cX0_isInner 41 = .ok (.iconst 0, 1) := by decide +kernel
theorem dX0_isInner_42 : decode cX0_isInner 42 = .ok (.ireturn, 1) := by decide +kernel
theorem dX0_isSquare_0 : decode cX0_isSquare 0 = .ok (.iload_n 1, 1) := by decide +kernel
theorem dX0_isSquare_1 : decode cX0_isSquare 1 = .ok (.ifCond .lt 15, 3) := by decide +kernel
theorem dX0_isSquare_4 : decode cX0_isSquare 4 = .ok (.iload_n 1, 1) := by decide +kernel
theorem dX0_isSquare_5 : decode cX0_isSquare 5 = .ok (.aload_n 0, 1) := by decide +kernel
theorem dX0_isSquare_6 : decode cX0_isSquare 6 = .ok (.invokevirtual 32, 3) := by decide +kernel
theorem dX0_isSquare_9 : decode cX0_isSquare 9 = .ok (.if_icmp .ge 7, 3) := by decide +kernel
theorem dX0_isSquare_12 : decode cX0_isSquare 12 = .ok (.iconst 1, 1) := by decide +kernel
theorem dX0_isSquare_13 : decode cX0_isSquare 13 = .ok (.goto 4, 3) := by decide +kernel
theorem dX0_isSquare_16 : decode cX0_isSquare 16 = .ok (.iconst 0, 1) := by decide +kernel
theorem dX0_isSquare_17 : decode cX0_isSquare 17 = .ok (.ireturn, 1) := by decide +kernel
theorem dX0_squareCount_0 : decode cX0_squareCount 0 = .ok (.iconst 4, 1) := by decide +kernel
theorem dX0_squareCount_1 : decode cX0_squareCount 1 = .ok (.aload_n 0, 1) := by decide +kernel
theorem dX0_squareCount_2 : decode cX0_squareCount 2 = .ok (.getfield 9, 3) := by decide +kernel
theorem dX0_squareCount_5 : decode cX0_squareCount 5 = .ok (.imul, 1) := by decide +kernel
theorem dX0_squareCount_6 : decode cX0_squareCount 6 = .ok (.aload_n 0, 1) := by decide +kernel
theorem dX0_squareCount_7 : decode cX0_squareCount 7 = .ok (.getfield 15, 3) := by decide +kernel
theorem dX0_squareCount_10 : decode cX0_squareCount 10 = .ok (.imul, 1) := by decide +kernel
theorem dX0_squareCount_11 : decode cX0_squareCount 11 = .ok (.ireturn, 1) := by decide +kernel
theorem dX0_mirrorAt_0 : decode cX0_mirrorAt 0 = .ok (.aload_n 0, 1) := by decide +kernel
theorem dX0_mirrorAt_1 : decode cX0_mirrorAt 1 = .ok (.iload_n 1, 1) := by decide +kernel
theorem dX0_mirrorAt_2 : decode cX0_mirrorAt 2 = .ok (.iload_n 2, 1) := by decide +kernel
theorem dX0_mirrorAt_3 : decode cX0_mirrorAt 3 = .ok (.invokevirtual 36, 3) := by decide +kernel
theorem dX0_mirrorAt_6 : decode cX0_mirrorAt 6 = .ok (.ifCond .eq 16, 3) := by decide +kernel
theorem dX0_mirrorAt_9 : decode cX0_mirrorAt 9 = .ok (.aload_n 0, 1) := by decide +kernel
theorem dX0_mirrorAt_10 : decode cX0_mirrorAt 10 = .ok (.getfield 18, 3) := by decide +kernel
theorem dX0_mirrorAt_13 : decode cX0_mirrorAt 13 = .ok (.iload_n 1, 1) := by decide +kernel
theorem dX0_mirrorAt_14 : decode cX0_mirrorAt 14 = .ok (.iload_n 2, 1) := by decide +kernel
theorem dX0_mirrorAt_15 : decode cX0_mirrorAt 15 = .ok (.invokestatic 40, 3) := by decide +kernel
theorem dX0_mirrorAt_18 : decode cX0_mirrorAt 18 = .ok (.iaload, 1) := by decide +kernel
theorem dX0_mirrorAt_19 : decode cX0_mirrorAt 19 = .ok (.goto 4, 3) := by decide +kernel
theorem dX0_mirrorAt_22 : decode cX0_mirrorAt 22 = .ok (.iconst 0, 1) := by decide +kernel
theorem dX0_mirrorAt_23 : decode cX0_mirrorAt 23 = .ok (.ireturn, 1) := by decide +kernel
theorem dX0_put_0 : decode cX0_put 0 = .ok (.aload_n 0, 1) := by decide +kernel
theorem dX0_put_1 : decode cX0_put 1 = .ok (.iload_n 1, 1) := by decide +kernel
theorem dX0_put_2 : decode cX0_put 2 = .ok (.iload_n 2, 1) := by decide +kernel
theorem dX0_put_3 : decode cX0_put 3 = .ok (.invokevirtual 36, 3) := by decide +kernel
theorem dX0_put_6 : decode cX0_put 6 = .ok (.ifCond .eq 14, 3) := by decide +kernel
theorem dX0_put_9 : decode cX0_put 9 = .ok (.aload_n 0, 1) := by decide +kernel
theorem dX0_put_10 : decode cX0_put 10 = .ok (.getfield 18, 3) := by decide +kernel
theorem dX0_put_13 : decode cX0_put 13 = .ok (.iload_n 1, 1) := by decide +kernel
theorem dX0_put_14 : decode cX0_put 14 = .ok (.iload_n 2, 1) := by decide +kernel
theorem dX0_put_15 : decode cX0_put 15 = .ok (.invokestatic 40, 3) := by decide +kernel
theorem dX0_put_18 : decode cX0_put 18 = .ok (.iload_n 3, 1) := by decide +kernel
theorem dX0_put_19 : decode cX0_put 19 = .ok (.iastore, 1) := by decide +kernel
theorem dX0_put_20 : decode cX0_put 20 = .ok (.return_, 1) := by decide +kernel
theorem dX0_copy_0 : decode cX0_copy 0 = .ok (.aload_n 0, 1) := by decide +kernel
theorem dX0_copy_1 : decode cX0_copy 1 = .ok (.aload_n 1, 1) := by decide +kernel
theorem dX0_copy_2 : decode cX0_copy 2 = .ok (.getfield 9, 3) := by decide +kernel
theorem dX0_copy_5 : decode cX0_copy 5 = .ok (.putfield 9, 3) := by decide +kernel
theorem dX0_copy_8 : decode cX0_copy 8 = .ok (.aload_n 0, 1) := by decide +kernel
theorem dX0_copy_9 : decode cX0_copy 9 = .ok (.aload_n 1, 1) := by decide +kernel
theorem dX0_copy_10 : decode cX0_copy 10 = .ok (.getfield 15, 3) := by decide +kernel
theorem dX0_copy_13 : decode cX0_copy 13 = .ok (.putfield 15, 3) := by decide +kernel
theorem dX0_copy_16 : decode cX0_copy 16 = .ok (.aload_n 1, 1) := by decide +kernel
theorem dX0_copy_17 : decode cX0_copy 17 = .ok (.getfield 18, 3) := by decide +kernel
theorem dX0_copy_20 : decode cX0_copy 20 = .ok (.iconst 0, 1) := by decide +kernel
theorem dX0_copy_21 : decode cX0_copy 21 = .ok (.aload_n 0, 1) := by decide +kernel
theorem dX0_copy_22 : decode cX0_copy 22 = .ok (.getfield 18, 3) := by decide +kernel
theorem dX0_copy_25 : decode cX0_copy 25 = .ok (.iconst 0, 1) := by decide +kernel
theorem dX0_copy_26 : decode cX0_copy 26 = .ok (.sipush 128, 3) := by decide +kernel
theorem dX0_copy_29 : decode cX0_copy 29 = .ok (.invokestatic 44, 3) := by decide +kernel
theorem dX0_copy_32 : decode cX0_copy 32 = .ok (.return_, 1) := by decide +kernel
theorem dX0_isSameAs_0 : decode cX0_isSameAs 0 = .ok (.aload_n 0, 1) := by decide +kernel
theorem dX0_isSameAs_1 : decode cX0_isSameAs 1 = .ok (.getfield 9, 3) := by decide +kernel
theorem dX0_isSameAs_4 : decode cX0_isSameAs 4 = .ok (.aload_n 1, 1) := by decide +kernel
theorem dX0_isSameAs_5 : decode cX0_isSameAs 5 = .ok (.getfield 9, 3) := by decide +kernel
theorem dX0_isSameAs_8 : decode cX0_isSameAs 8 = .ok (.if_icmp .ne 14, 3) := by decide +kernel
theorem dX0_isSameAs_11 : decode cX0_isSameAs 11 = .ok (.aload_n 0, 1) := by decide +kernel
theorem dX0_isSameAs_12 : decode cX0_isSameAs 12 = .ok (.getfield 15, 3) := by decide +kernel
theorem dX0_isSameAs_15 : decode cX0_isSameAs 15 = .ok (.aload_n 1, 1) := by decide +kernel
theorem dX0_isSameAs_16 : decode cX0_isSameAs 16 = .ok (.getfield 15, 3) := by decide +kernel
theorem dX0_isSameAs_19 : decode cX0_isSameAs 19 = .ok (.if_icmp .eq 5, 3) := by decide +kernel
theorem dX0_isSameAs_22 : decode cX0_isSameAs 22 = .ok (.iconst 0, 1) := by decide +kernel
theorem dX0_isSameAs_23 : decode cX0_isSameAs 23 = .ok (.ireturn, 1) := by decide +kernel
theorem dX0_isSameAs_24 : decode cX0_isSameAs 24 = .ok (.iconst 0, 1) := by decide +kernel
theorem dX0_isSameAs_25 : decode cX0_isSameAs 25 = .ok (.istore_n 2, 1) := by decide +kernel
theorem dX0_isSameAs_26 : decode cX0_isSameAs 26 = .ok (.iload_n 2, 1) := by decide +kernel
theorem dX0_isSameAs_27 : decode cX0_isSameAs 27 = .ok (.sipush 128, 3) := by decide +kernel
theorem dX0_isSameAs_30 : decode cX0_isSameAs 30 = .ok (.if_icmp .ge 26, 3) := by decide +kernel
theorem dX0_isSameAs_33 : decode cX0_isSameAs 33 = .ok (.aload_n 0, 1) := by decide +kernel
theorem dX0_isSameAs_34 : decode cX0_isSameAs 34 = .ok (.getfield 18, 3) := by decide +kernel
theorem dX0_isSameAs_37 : decode cX0_isSameAs 37 = .ok (.iload_n 2, 1) := by decide +kernel
theorem dX0_isSameAs_38 : decode cX0_isSameAs 38 = .ok (.iaload, 1) := by decide +kernel
theorem dX0_isSameAs_39 : decode cX0_isSameAs 39 = .ok (.aload_n 1, 1) := by decide +kernel
theorem dX0_isSameAs_40 : decode cX0_isSameAs 40 = .ok (.getfield 18, 3) := by decide +kernel
theorem dX0_isSameAs_43 : decode cX0_isSameAs 43 = .ok (.iload_n 2, 1) := by decide +kernel
theorem dX0_isSameAs_44 : decode cX0_isSameAs 44 = .ok (.iaload, 1) := by decide +kernel
theorem dX0_isSameAs_45 : decode cX0_isSameAs 45 = .ok (.if_icmp .eq 5, 3) := by decide +kernel
theorem dX0_isSameAs_48 : decode cX0_isSameAs 48 = .ok (.iconst 0, 1) := by decide +kernel
theorem dX0_isSameAs_49 : decode cX0_isSameAs 49 = .ok (.ireturn, 1) := by decide +kernel
theorem dX0_isSameAs_50 : decode cX0_isSameAs 50 = .ok (.iinc 2 1, 3) := by decide +kernel
theorem dX0_isSameAs_53 : decode cX0_isSameAs 53 = .ok (.goto (-27), 3) := by decide +kernel
theorem dX0_isSameAs_56 : decode cX0_isSameAs 56 = .ok (.iconst 1, 1) := by decide +kernel
theorem dX0_isSameAs_57 : decode cX0_isSameAs 57 = .ok (.ireturn, 1) := by decide +kernel
theorem dX0_countOf_0 : decode cX0_countOf 0 = .ok (.iconst 0, 1) := by decide +kernel
theorem dX0_countOf_1 : decode cX0_countOf 1 = .ok (.istore_n 2, 1) := by decide +kernel
theorem dX0_countOf_2 : decode cX0_countOf 2 = .ok (.aload_n 0, 1) := by decide +kernel
theorem dX0_countOf_3 : decode cX0_countOf 3 = .ok (.getfield 18, 3) := by decide +kernel
theorem dX0_countOf_6 : decode cX0_countOf 6 = .ok (.astore_n 3, 1) := by decide +kernel
theorem dX0_countOf_7 : decode cX0_countOf 7 = .ok (.aload_n 3, 1) := by decide +kernel
theorem dX0_countOf_8 : decode cX0_countOf 8 = .ok (.arraylength, 1) := by decide +kernel
theorem dX0_countOf_9 : decode cX0_countOf 9 = .ok (.istore 4, 2) := by decide +kernel
theorem dX0_countOf_11 : decode cX0_countOf 11 = .ok (.iconst 0, 1) := by decide +kernel
theorem dX0_countOf_12 : decode cX0_countOf 12 = .ok (.istore 5, 2) := by decide +kernel
theorem dX0_countOf_14 : decode cX0_countOf 14 = .ok (.iload 5, 2) := by decide +kernel
theorem dX0_countOf_16 : decode cX0_countOf 16 = .ok (.iload 4, 2) := by decide +kernel
theorem dX0_countOf_18 : decode cX0_countOf 18 = .ok (.if_icmp .ge 29, 3) := by decide +kernel
theorem dX0_countOf_21 : decode cX0_countOf 21 = .ok (.aload_n 3, 1) := by decide +kernel
theorem dX0_countOf_22 : decode cX0_countOf 22 = .ok (.iload 5, 2) := by decide +kernel
theorem dX0_countOf_24 : decode cX0_countOf 24 = .ok (.iaload, 1) := by decide +kernel
theorem dX0_countOf_25 : decode cX0_countOf 25 = .ok (.istore 6, 2) := by decide +kernel
theorem dX0_countOf_27 : decode cX0_countOf 27 = .ok (.iload_n 2, 1) := by decide +kernel
theorem dX0_countOf_28 : decode cX0_countOf 28 = .ok (.iload 6, 2) := by decide +kernel
theorem dX0_countOf_30 : decode cX0_countOf 30 = .ok (.iload_n 1, 1) := by decide +kernel
theorem dX0_countOf_31 : decode cX0_countOf 31 = .ok (.if_icmp .ne 7, 3) := by decide +kernel
theorem dX0_countOf_34 : decode cX0_countOf 34 = .ok (.iconst 1, 1) := by decide +kernel
theorem dX0_countOf_35 : decode cX0_countOf 35 = .ok (.goto 4, 3) := by decide +kernel
theorem dX0_countOf_38 : decode cX0_countOf 38 = .ok (.iconst 0, 1) := by decide +kernel
theorem dX0_countOf_39 : decode cX0_countOf 39 = .ok (.iadd, 1) := by decide +kernel
theorem dX0_countOf_40 : decode cX0_countOf 40 = .ok (.istore_n 2, 1) := by decide +kernel
theorem dX0_countOf_41 : decode cX0_countOf 41 = .ok (.iinc 5 1, 3) := by decide +kernel
theorem dX0_countOf_44 : decode cX0_countOf 44 = .ok (.goto (-30), 3) := by decide +kernel
theorem dX0_countOf_47 : decode cX0_countOf 47 = .ok (.iload_n 2, 1) := by decide +kernel
theorem dX0_countOf_48 : decode cX0_countOf 48 = .ok (.ireturn, 1) := by decide +kernel
theorem dX0_takeTurned_0 : decode cX0_takeTurned 0 = .ok (.iload_n 2, 1) := by decide +kernel
theorem dX0_takeTurned_1 : decode cX0_takeTurned 1 = .ok (.iconst 1, 1) := by decide +kernel
theorem dX0_takeTurned_2 : decode cX0_takeTurned 2 = .ok (.iand, 1) := by decide +kernel
theorem dX0_takeTurned_3 : decode cX0_takeTurned 3 = .ok (.iconst 1, 1) := by decide +kernel
theorem dX0_takeTurned_4 : decode cX0_takeTurned 4 = .ok (.if_icmp .ne 7, 3) := by decide +kernel
theorem dX0_takeTurned_7 : decode cX0_takeTurned 7 = .ok (.iconst 1, 1) := by decide +kernel
theorem dX0_takeTurned_8 : decode cX0_takeTurned 8 = .ok (.goto 4, 3) := by decide +kernel
theorem dX0_takeTurned_11 : decode cX0_takeTurned 11 = .ok (.iconst 0, 1) := by decide +kernel
theorem dX0_takeTurned_12 : decode cX0_takeTurned 12 = .ok (.istore 4, 2) := by decide +kernel
theorem dX0_takeTurned_14 : decode cX0_takeTurned 14 = .ok (.aload_n 0, 1) := by decide +kernel
theorem dX0_takeTurned_15 : decode cX0_takeTurned 15 = .ok (.iload 4, 2) := by decide +kernel
theorem dX0_takeTurned_17 : decode cX0_takeTurned 17 = .ok (.ifCond .eq 10, 3) := by decide +kernel
theorem dX0_takeTurned_20 : decode cX0_takeTurned 20 = .ok (.aload_n 1, 1) := by decide +kernel
theorem dX0_takeTurned_21 : decode cX0_takeTurned 21 = .ok (.getfield 15, 3) := by decide +kernel
theorem dX0_takeTurned_24 : decode cX0_takeTurned 24 = .ok (.goto 7, 3) := by decide +kernel
theorem dX0_takeTurned_27 : decode cX0_takeTurned 27 = .ok (.aload_n 1, 1) := by decide +kernel
theorem dX0_takeTurned_28 : decode cX0_takeTurned 28 = .ok (.getfield 9, 3) := by decide +kernel
theorem dX0_takeTurned_31 : decode cX0_takeTurned 31 = .ok (.iload 4, 2) := by decide +kernel
theorem dX0_takeTurned_33 : decode cX0_takeTurned 33 = .ok (.ifCond .eq 10, 3) := by decide +kernel
theorem dX0_takeTurned_36 : decode cX0_takeTurned 36 = .ok (.aload_n 1, 1) := by decide +kernel
theorem dX0_takeTurned_37 : decode cX0_takeTurned 37 = .ok (.getfield 9, 3) := by decide +kernel
theorem dX0_takeTurned_40 : decode cX0_takeTurned 40 = .ok (.goto 7, 3) := by decide +kernel
theorem dX0_takeTurned_43 : decode cX0_takeTurned 43 = .ok (.aload_n 1, 1) := by decide +kernel
theorem dX0_takeTurned_44 : decode cX0_takeTurned 44 = .ok (.getfield 15, 3) := by decide +kernel
theorem dX0_takeTurned_47 : decode cX0_takeTurned 47 = .ok (.invokevirtual 50, 3) := by decide +kernel
theorem dX0_takeTurned_50 : decode cX0_takeTurned 50 = .ok (.iconst 1, 1) := by decide +kernel
theorem dX0_takeTurned_51 : decode cX0_takeTurned 51 = .ok (.istore 5, 2) := by decide +kernel
theorem dX0_takeTurned_53 : decode cX0_takeTurned 53 = .ok (.iload 5, 2) := by decide +kernel
theorem dX0_takeTurned_55 : decode cX0_takeTurned 55 = .ok (.iconst 2, 1) := by decide +kernel
theorem dX0_takeTurned_56 : decode cX0_takeTurned 56 = .ok (.aload_n 1, 1) := by decide +kernel
theorem dX0_takeTurned_57 : decode cX0_takeTurned 57 = .ok (.getfield 15, 3) := by decide +kernel
theorem dX0_takeTurned_60 : decode cX0_takeTurned 60 = .ok (.imul, 1) := by decide +kernel
theorem dX0_takeTurned_61 : decode cX0_takeTurned 61 = .ok (.if_icmp .ge 113, 3) := by decide +kernel
theorem dX0_takeTurned_64 : decode cX0_takeTurned 64 = .ok (.iconst 1, 1) := by decide +kernel
theorem dX0_takeTurned_65 : decode cX0_takeTurned 65 = .ok (.iload 5, 2) := by decide +kernel
theorem dX0_takeTurned_67 : decode cX0_takeTurned 67 = .ok (.iconst 1, 1) := by decide +kernel
theorem dX0_takeTurned_68 : decode cX0_takeTurned 68 = .ok (.iand, 1) := by decide +kernel
theorem dX0_takeTurned_69 : decode cX0_takeTurned 69 = .ok (.iadd, 1) := by decide +kernel
theorem dX0_takeTurned_70 : decode cX0_takeTurned 70 = .ok (.istore 6, 2) := by decide +kernel
theorem dX0_takeTurned_72 : decode cX0_takeTurned 72 = .ok (.iload 6, 2) := by decide +kernel
theorem dX0_takeTurned_74 : decode cX0_takeTurned 74 = .ok (.iconst 2, 1) := by decide +kernel
theorem dX0_takeTurned_75 : decode cX0_takeTurned 75 = .ok (.aload_n 1, 1) := by decide +kernel
theorem dX0_takeTurned_76 : decode cX0_takeTurned 76 = .ok (.getfield 9, 3) := by decide +kernel
theorem dX0_takeTurned_79 : decode cX0_takeTurned 79 = .ok (.imul, 1) := by decide +kernel
theorem dX0_takeTurned_80 : decode cX0_takeTurned 80 = .ok (.if_icmp .ge 88, 3) := by decide +kernel
theorem dX0_takeTurned_83 : decode cX0_takeTurned 83 = .ok (.aload_n 1, 1) := by decide +kernel
theorem dX0_takeTurned_84 : decode cX0_takeTurned 84 = .ok (.iload 6, 2) := by decide +kernel
theorem dX0_takeTurned_86 : decode cX0_takeTurned 86 = .ok (.iload 5, 2) := by decide +kernel
theorem dX0_takeTurned_88 : decode cX0_takeTurned 88 = .ok (.invokevirtual 54, 3) := by decide +kernel
theorem dX0_takeTurned_91 : decode cX0_takeTurned 91 = .ok (.istore 7, 2) := by decide +kernel
theorem dX0_takeTurned_93 : decode cX0_takeTurned 93 = .ok (.aload_n 1, 1) := by decide +kernel
theorem dX0_takeTurned_94 : decode cX0_takeTurned 94 = .ok (.iload_n 2, 1) := by decide +kernel
theorem dX0_takeTurned_95 : decode cX0_takeTurned 95 = .ok (.iload 6, 2) := by decide +kernel
theorem dX0_takeTurned_97 : decode cX0_takeTurned 97 = .ok (.iload 5, 2) := by decide +kernel
theorem dX0_takeTurned_99 : decode cX0_takeTurned 99 = .ok (.invokestatic 57, 3) := by decide +kernel
theorem dX0_takeTurned_102 : decode cX0_takeTurned 102 = .ok (.istore 8, 2) := by decide +kernel
theorem dX0_takeTurned_104 : decode cX0_takeTurned 104 = .ok (.aload_n 1, 1) := by decide +kernel
theorem dX0_takeTurned_105 : decode cX0_takeTurned 105 = .ok (.iload_n 2, 1) := by decide +kernel
theorem dX0_takeTurned_106 : decode cX0_takeTurned 106 = .ok (.iload 6, 2) := by decide +kernel
theorem dX0_takeTurned_108 : decode cX0_takeTurned 108 = .ok (.iload 5, 2) := by decide +kernel
theorem dX0_takeTurned_110 : decode cX0_takeTurned 110 = .ok (.invokestatic 61, 3) := by decide +kernel
theorem dX0_takeTurned_113 : decode cX0_takeTurned 113 = .ok (.istore 9, 2) := by decide +kernel
theorem dX0_takeTurned_115 : decode cX0_takeTurned 115 = .ok (.iload 4, 2) := by decide +kernel
theorem dX0_takeTurned_117 : decode cX0_takeTurned 117 = .ok (.ifCond .eq 15, 3) := by decide +kernel
theorem dX0_takeTurned_120 : decode cX0_takeTurned 120 = .ok (.iload 7, 2) := by decide +kernel
theorem dX0_takeTurned_122 : decode cX0_takeTurned 122 = .ok (.ifCond .eq 10, 3) := by decide +kernel
theorem dX0_takeTurned_125 : decode cX0_takeTurned 125 = .ok (.iconst 3, 1) := by decide +kernel
theorem dX0_takeTurned_126 : decode cX0_takeTurned 126 = .ok (.iload 7, 2) := by decide +kernel
theorem dX0_takeTurned_128 : decode cX0_takeTurned 128 = .ok (.isub, 1) := by decide +kernel
theorem dX0_takeTurned_129 : decode cX0_takeTurned 129 = .ok (.goto 5, 3) := by decide +kernel
theorem dX0_takeTurned_132 : decode cX0_takeTurned 132 = .ok (.iload 7, 2) := by decide +kernel
theorem dX0_takeTurned_134 : decode cX0_takeTurned 134 = .ok (.istore 10, 2) := by decide +kernel
theorem dX0_takeTurned_136 : decode cX0_takeTurned 136 = .ok (.aload_n 0, 1) := by decide +kernel
theorem dX0_takeTurned_137 : decode cX0_takeTurned 137 = .ok (.iload_n 3, 1) := by decide +kernel
theorem dX0_takeTurned_138 : decode cX0_takeTurned 138 = .ok (.ifCond .eq 15, 3) := by decide +kernel
theorem dX0_takeTurned_141 : decode cX0_takeTurned 141 = .ok (.iconst 2, 1) := by decide +kernel
theorem dX0_takeTurned_142 : decode cX0_takeTurned 142 = .ok (.aload_n 0, 1) := by decide +kernel
theorem dX0_takeTurned_143 : decode cX0_takeTurned 143 = .ok (.getfield 9, 3) := by decide +kernel
theorem dX0_takeTurned_146 : decode cX0_takeTurned 146 = .ok (.imul, 1) := by decide +kernel
theorem dX0_takeTurned_147 : decode cX0_takeTurned 147 = .ok (.iload 8, 2) := by decide +kernel
theorem dX0_takeTurned_149 : decode cX0_takeTurned 149 = .ok (.isub, 1) := by decide +kernel
theorem dX0_takeTurned_150 : decode cX0_takeTurned 150 = .ok (.goto 5, 3) := by decide +kernel
theorem dX0_takeTurned_153 : decode cX0_takeTurned 153 = .ok (.iload 8, 2) := by decide +kernel
theorem dX0_takeTurned_155 : decode cX0_takeTurned 155 = .ok (.iload 9, 2) := by decide +kernel
theorem dX0_takeTurned_157 : decode cX0_takeTurned 157 = .ok (.iload 10, 2) := by decide +kernel
theorem dX0_takeTurned_159 : decode cX0_takeTurned 159 = .ok (.invokevirtual 64, 3) := by decide +kernel
theorem dX0_takeTurned_162 : decode cX0_takeTurned 162 = .ok (.iinc 6 2, 3) := by decide +kernel
theorem dX0_takeTurned_165 : decode cX0_takeTurned 165 = .ok (.goto (-93), 3) := by decide +kernel
theorem dX0_takeTurned_168 : decode cX0_takeTurned 168 = .ok (.iinc 5 1, 3) := by decide +kernel
theorem dX0_takeTurned_171 : decode cX0_takeTurned 171 = .ok (.goto (-118), 3) := by decide +kernel
theorem dX0_takeTurned_174 : decode cX0_takeTurned 174 = .ok (.return_, 1) := by decide +kernel
theorem dX0_turnedColumn_0 : decode cX0_turnedColumn 0 = .ok (.iload_n 1, 1) := by decide +kernel
theorem dX0_turnedColumn_1 : decode cX0_turnedColumn 1 = .ok (.tableswitch 47 1 3 #[27, 36, 45], 27) := by decide +kernel
theorem dX0_turnedColumn_28 : decode cX0_turnedColumn 28 = .ok (.iconst 2, 1) := by decide +kernel
theorem dX0_turnedColumn_29 : decode cX0_turnedColumn 29 = .ok (.aload_n 0, 1) := by decide +kernel
theorem dX0_turnedColumn_30 : decode cX0_turnedColumn 30 = .ok (.getfield 15, 3) := by decide +kernel
theorem dX0_turnedColumn_33 : decode cX0_turnedColumn 33 = .ok (.imul, 1) := by decide +kernel
theorem dX0_turnedColumn_34 : decode cX0_turnedColumn 34 = .ok (.iload_n 3, 1) := by decide +kernel
theorem dX0_turnedColumn_35 : decode cX0_turnedColumn 35 = .ok (.isub, 1) := by decide +kernel
theorem dX0_turnedColumn_36 : decode cX0_turnedColumn 36 = .ok (.ireturn, 1) := by decide +kernel
theorem dX0_turnedColumn_37 : decode cX0_turnedColumn 37 = .ok (.iconst 2, 1) := by decide +kernel
theorem dX0_turnedColumn_38 : decode cX0_turnedColumn 38 = .ok (.aload_n 0, 1) := by decide +kernel
theorem dX0_turnedColumn_39 : decode cX0_turnedColumn 39 = .ok (.getfield 9, 3) := by decide +kernel
theorem dX0_turnedColumn_42 : decode cX0_turnedColumn 42 = .ok (.imul, 1) := by decide +kernel
theorem dX0_turnedColumn_43 : decode cX0_turnedColumn 43 = .ok (.iload_n 2, 1) := by decide +kernel
theorem dX0_turnedColumn_44 : decode cX0_turnedColumn 44 = .ok (.isub, 1) := by decide +kernel
theorem dX0_turnedColumn_45 : decode cX0_turnedColumn 45 = .ok (.ireturn, 1) := by decide +kernel
theorem dX0_turnedColumn_46 : decode cX0_turnedColumn 46 = .ok (.iload_n 3, 1) := by decide +kernel
theorem dX0_turnedColumn_47 : decode cX0_turnedColumn 47 = .ok (.ireturn, 1) := by decide +kernel
theorem dX0_turnedColumn_48 : decode cX0_turnedColumn 48 = .ok (.iload_n 2, 1) := by decide +kernel
theorem dX0_turnedColumn_49 : decode cX0_turnedColumn 49 = .ok (.ireturn, 1) := by decide +kernel
theorem dX0_turnedRow_0 : decode cX0_turnedRow 0 = .ok (.iload_n 1, 1) := by decide +kernel
theorem dX0_turnedRow_1 : decode cX0_turnedRow 1 = .ok (.tableswitch 47 1 3 #[27, 29, 38], 27) := by decide +kernel
theorem dX0_turnedRow_28 : decode cX0_turnedRow 28 = .ok (.iload_n 2, 1) := by decide +kernel
theorem dX0_turnedRow_29 : decode cX0_turnedRow 29 = .ok (.ireturn, 1) := by decide +kernel
theorem dX0_turnedRow_30 : decode cX0_turnedRow 30 = .ok (.iconst 2, 1) := by decide +kernel
theorem dX0_turnedRow_31 : decode cX0_turnedRow 31 = .ok (.aload_n 0, 1) := by decide +kernel
theorem dX0_turnedRow_32 : decode cX0_turnedRow 32 = .ok (.getfield 15, 3) := by decide +kernel
theorem dX0_turnedRow_35 : decode cX0_turnedRow 35 = .ok (.imul, 1) := by decide +kernel
theorem dX0_turnedRow_36 : decode cX0_turnedRow 36 = .ok (.iload_n 3, 1) := by decide +kernel
theorem dX0_turnedRow_37 : decode cX0_turnedRow 37 = .ok (.isub, 1) := by decide +kernel
theorem dX0_turnedRow_38 : decode cX0_turnedRow 38 = .ok (.ireturn, 1) := by decide +kernel
theorem dX0_turnedRow_39 : decode cX0_turnedRow 39 = .ok (.iconst 2, 1) := by decide +kernel
theorem dX0_turnedRow_40 : decode cX0_turnedRow 40 = .ok (.aload_n 0, 1) := by decide +kernel
theorem dX0_turnedRow_41 : decode cX0_turnedRow 41 = .ok (.getfield 9, 3) := by decide +kernel
theorem dX0_turnedRow_44 : decode cX0_turnedRow 44 = .ok (.imul, 1) := by decide +kernel
theorem dX0_turnedRow_45 : decode cX0_turnedRow 45 = .ok (.iload_n 2, 1) := by decide +kernel
theorem dX0_turnedRow_46 : decode cX0_turnedRow 46 = .ok (.isub, 1) := by decide +kernel
theorem dX0_turnedRow_47 : decode cX0_turnedRow 47 = .ok (.ireturn, 1) := by decide +kernel
theorem dX0_turnedRow_48 : decode cX0_turnedRow 48 = .ok (.iload_n 3, 1) := by decide +kernel
theorem dX0_turnedRow_49 : decode cX0_turnedRow 49 = .ok (.ireturn, 1) := by decide +kernel
theorem dX0_growBeside_0 : decode cX0_growBeside 0 = .ok (.iconst 2, 1) := by decide +kernel
theorem dX0_growBeside_1 : decode cX0_growBeside 1 = .ok (.aload_n 0, 1) := by decide +kernel
theorem dX0_growBeside_2 : decode cX0_growBeside 2 = .ok (.getfield 9, 3) := by decide +kernel
theorem dX0_growBeside_5 : decode cX0_growBeside 5 = .ok (.imul, 1) := by decide +kernel
theorem dX0_growBeside_6 : decode cX0_growBeside 6 = .ok (.istore_n 2, 1) := by decide +kernel
theorem dX0_growBeside_7 : decode cX0_growBeside 7 = .ok (.aload_n 0, 1) := by decide +kernel
theorem dX0_growBeside_8 : decode cX0_growBeside 8 = .ok (.getfield 15, 3) := by decide +kernel
theorem dX0_growBeside_11 : decode cX0_growBeside 11 = .ok (.aload_n 1, 1) := by decide +kernel
theorem dX0_growBeside_12 : decode cX0_growBeside 12 = .ok (.getfield 15, 3) := by decide +kernel
theorem dX0_growBeside_15 : decode cX0_growBeside 15 = .ok (.if_icmp .ne 18, 3) := by decide +kernel
theorem dX0_growBeside_18 : decode cX0_growBeside 18 = .ok (.aload_n 0, 1) := by decide +kernel
theorem dX0_growBeside_19 : decode cX0_growBeside 19 = .ok (.getfield 9, 3) := by decide +kernel
theorem dX0_growBeside_22 : decode cX0_growBeside 22 = .ok (.aload_n 1, 1) := by decide +kernel
theorem dX0_growBeside_23 : decode cX0_growBeside 23 = .ok (.getfield 9, 3) := by decide +kernel
theorem dX0_growBeside_26 : decode cX0_growBeside 26 = .ok (.iadd, 1) := by decide +kernel
theorem dX0_growBeside_27 : decode cX0_growBeside 27 = .ok (.invokestatic 22, 3) := by decide +kernel
theorem dX0_growBeside_30 : decode cX0_growBeside 30 = .ok (.ifCond .ne 5, 3) := by decide +kernel
theorem dX0_growBeside_33 : decode cX0_growBeside 33 = .ok (.iconst 0, 1) := by decide +kernel
theorem dX0_growBeside_34 : decode cX0_growBeside 34 = .ok (.ireturn, 1) := by decide +kernel
theorem dX0_growBeside_35 : decode cX0_growBeside 35 = .ok (.aload_n 0, 1) := by decide +kernel
theorem dX0_growBeside_36 : decode cX0_growBeside 36 = .ok (.dup, 1) := by decide +kernel
theorem dX0_growBeside_37 : decode cX0_growBeside 37 = .ok (.getfield 9, 3) := by decide +kernel
theorem dX0_growBeside_40 : decode cX0_growBeside 40 = .ok (.aload_n 1, 1) := by decide +kernel
theorem dX0_growBeside_41 : decode cX0_growBeside 41 = .ok (.getfield 9, 3) := by decide +kernel
theorem dX0_growBeside_44 : decode cX0_growBeside 44 = .ok (.iadd, 1) := by decide +kernel
theorem dX0_growBeside_45 : decode cX0_growBeside 45 = .ok (.putfield 9, 3) := by decide +kernel
theorem dX0_growBeside_48 : decode cX0_growBeside 48 = .ok (.aload_n 0, 1) := by decide +kernel
theorem dX0_growBeside_49 : decode cX0_growBeside 49 = .ok (.aload_n 1, 1) := by decide +kernel
theorem dX0_growBeside_50 : decode cX0_growBeside 50 = .ok (.iload_n 2, 1) := by decide +kernel
theorem dX0_growBeside_51 : decode cX0_growBeside 51 = .ok (.iconst 0, 1) := by decide +kernel
theorem dX0_growBeside_52 : decode cX0_growBeside 52 = .ok (.invokevirtual 68, 3) := by decide +kernel
theorem dX0_growBeside_55 : decode cX0_growBeside 55 = .ok (.iconst 1, 1) := by decide +kernel
theorem dX0_growBeside_56 : decode cX0_growBeside 56 = .ok (.ireturn, 1) := by decide +kernel
theorem dX0_growBelow_0 : decode cX0_growBelow 0 = .ok (.iconst 2, 1) := by decide +kernel
theorem dX0_growBelow_1 : decode cX0_growBelow 1 = .ok (.aload_n 0, 1) := by decide +kernel
theorem dX0_growBelow_2 : decode cX0_growBelow 2 = .ok (.getfield 15, 3) := by decide +kernel
theorem dX0_growBelow_5 : decode cX0_growBelow 5 = .ok (.imul, 1) := by decide +kernel
theorem dX0_growBelow_6 : decode cX0_growBelow 6 = .ok (.istore_n 2, 1) := by decide +kernel
theorem dX0_growBelow_7 : decode cX0_growBelow 7 = .ok (.aload_n 0, 1) := by decide +kernel
theorem dX0_growBelow_8 : decode cX0_growBelow 8 = .ok (.getfield 9, 3) := by decide +kernel
theorem dX0_growBelow_11 : decode cX0_growBelow 11 = .ok (.aload_n 1, 1) := by decide +kernel
theorem dX0_growBelow_12 : decode cX0_growBelow 12 = .ok (.getfield 9, 3) := by decide +kernel
theorem dX0_growBelow_15 : decode cX0_growBelow 15 = .ok (.if_icmp .ne 18, 3) := by decide +kernel
theorem dX0_growBelow_18 : decode cX0_growBelow 18 = .ok (.aload_n 0, 1) := by decide +kernel
theorem dX0_growBelow_19 : decode cX0_growBelow 19 = .ok (.getfield 15, 3) := by decide +kernel
theorem dX0_growBelow_22 : decode cX0_growBelow 22 = .ok (.aload_n 1, 1) := by decide +kernel
theorem dX0_growBelow_23 : decode cX0_growBelow 23 = .ok (.getfield 15, 3) := by decide +kernel
theorem dX0_growBelow_26 : decode cX0_growBelow 26 = .ok (.iadd, 1) := by decide +kernel
theorem dX0_growBelow_27 : decode cX0_growBelow 27 = .ok (.invokestatic 22, 3) := by decide +kernel
theorem dX0_growBelow_30 : decode cX0_growBelow 30 = .ok (.ifCond .ne 5, 3) := by decide +kernel
theorem dX0_growBelow_33 : decode cX0_growBelow 33 = .ok (.iconst 0, 1) := by decide +kernel
theorem dX0_growBelow_34 : decode cX0_growBelow 34 = .ok (.ireturn, 1) := by decide +kernel
theorem dX0_growBelow_35 : decode cX0_growBelow 35 = .ok (.aload_n 0, 1) := by decide +kernel
theorem dX0_growBelow_36 : decode cX0_growBelow 36 = .ok (.dup, 1) := by decide +kernel
theorem dX0_growBelow_37 : decode cX0_growBelow 37 = .ok (.getfield 15, 3) := by decide +kernel
theorem dX0_growBelow_40 : decode cX0_growBelow 40 = .ok (.aload_n 1, 1) := by decide +kernel
theorem dX0_growBelow_41 : decode cX0_growBelow 41 = .ok (.getfield 15, 3) := by decide +kernel
theorem dX0_growBelow_44 : decode cX0_growBelow 44 = .ok (.iadd, 1) := by decide +kernel
theorem dX0_growBelow_45 : decode cX0_growBelow 45 = .ok (.putfield 15, 3) := by decide +kernel
theorem dX0_growBelow_48 : decode cX0_growBelow 48 = .ok (.aload_n 0, 1) := by decide +kernel
theorem dX0_growBelow_49 : decode cX0_growBelow 49 = .ok (.aload_n 1, 1) := by decide +kernel
theorem dX0_growBelow_50 : decode cX0_growBelow 50 = .ok (.iconst 0, 1) := by decide +kernel
theorem dX0_growBelow_51 : decode cX0_growBelow 51 = .ok (.iload_n 2, 1) := by decide +kernel
theorem dX0_growBelow_52 : decode cX0_growBelow 52 = .ok (.invokevirtual 68, 3) := by decide +kernel
theorem dX0_growBelow_55 : decode cX0_growBelow 55 = .ok (.iconst 1, 1) := by decide +kernel
theorem dX0_growBelow_56 : decode cX0_growBelow 56 = .ok (.ireturn, 1) := by decide +kernel
theorem dX0_coverWith_0 : decode cX0_coverWith 0 = .ok (.aload_n 0, 1) := by decide +kernel
theorem dX0_coverWith_1 : decode cX0_coverWith 1 = .ok (.getfield 9, 3) := by decide +kernel
theorem dX0_coverWith_4 : decode cX0_coverWith 4 = .ok (.aload_n 1, 1) := by decide +kernel
theorem dX0_coverWith_5 : decode cX0_coverWith 5 = .ok (.getfield 9, 3) := by decide +kernel
theorem dX0_coverWith_8 : decode cX0_coverWith 8 = .ok (.if_icmp .ne 14, 3) := by decide +kernel
theorem dX0_coverWith_11 : decode cX0_coverWith 11 = .ok (.aload_n 0, 1) := by decide +kernel
theorem dX0_coverWith_12 : decode cX0_coverWith 12 = .ok (.getfield 15, 3) := by decide +kernel
theorem dX0_coverWith_15 : decode cX0_coverWith 15 = .ok (.aload_n 1, 1) := by decide +kernel
theorem dX0_coverWith_16 : decode cX0_coverWith 16 = .ok (.getfield 15, 3) := by decide +kernel
theorem dX0_coverWith_19 : decode cX0_coverWith 19 = .ok (.if_icmp .eq 5, 3) := by decide +kernel
theorem dX0_coverWith_22 : decode cX0_coverWith 22 = .ok (.iconst 0, 1) := by decide +kernel
theorem dX0_coverWith_23 : decode cX0_coverWith 23 = .ok (.ireturn, 1) := by decide +kernel
theorem dX0_coverWith_24 : decode cX0_coverWith 24 = .ok (.aload_n 0, 1) := by decide +kernel
theorem dX0_coverWith_25 : decode cX0_coverWith 25 = .ok (.aload_n 1, 1) := by decide +kernel
theorem dX0_coverWith_26 : decode cX0_coverWith 26 = .ok (.iconst 0, 1) := by decide +kernel
theorem dX0_coverWith_27 : decode cX0_coverWith 27 = .ok (.iconst 0, 1) := by decide +kernel
theorem dX0_coverWith_28 : decode cX0_coverWith 28 = .ok (.invokevirtual 68, 3) := by decide +kernel
theorem dX0_coverWith_31 : decode cX0_coverWith 31 = .ok (.iconst 1, 1) := by decide +kernel
theorem dX0_coverWith_32 : decode cX0_coverWith 32 = .ok (.ireturn, 1) := by decide +kernel
theorem dX0_layMirrors_0 : decode cX0_layMirrors 0 = .ok (.iconst 1, 1) := by decide +kernel
theorem dX0_layMirrors_1 : decode cX0_layMirrors 1 = .ok (.istore 4, 2) := by decide +kernel
theorem dX0_layMirrors_3 : decode cX0_layMirrors 3 = .ok (.iload 4, 2) := by decide +kernel
theorem dX0_layMirrors_5 : decode cX0_layMirrors 5 = .ok (.iconst 2, 1) := by decide +kernel
theorem dX0_layMirrors_6 : decode cX0_layMirrors 6 = .ok (.aload_n 1, 1) := by decide +kernel
theorem dX0_layMirrors_7 : decode cX0_layMirrors 7 = .ok (.getfield 15, 3) := by decide +kernel
theorem dX0_layMirrors_10 : decode cX0_layMirrors 10 = .ok (.imul, 1) := by decide +kernel
theorem dX0_layMirrors_11 : decode cX0_layMirrors 11 = .ok (.if_icmp .ge 63, 3) := by decide +kernel
theorem dX0_layMirrors_14 : decode cX0_layMirrors 14 = .ok (.iconst 1, 1) := by decide +kernel
theorem dX0_layMirrors_15 : decode cX0_layMirrors 15 = .ok (.iload 4, 2) := by decide +kernel
theorem dX0_layMirrors_17 : decode cX0_layMirrors 17 = .ok (.iconst 1, 1) := by decide +kernel
theorem dX0_layMirrors_18 : decode cX0_layMirrors 18 = .ok (.iand, 1) := by decide +kernel
theorem dX0_layMirrors_19 : decode cX0_layMirrors 19 = .ok (.iadd, 1) := by decide +kernel
theorem dX0_layMirrors_20 : decode cX0_layMirrors 20 = .ok (.istore 5, 2) := by decide +kernel
theorem dX0_layMirrors_22 : decode cX0_layMirrors 22 = .ok (.iload 5, 2) := by decide +kernel
theorem dX0_layMirrors_24 : decode cX0_layMirrors 24 = .ok (.iconst 2, 1) := by decide +kernel
theorem dX0_layMirrors_25 : decode cX0_layMirrors 25 = .ok (.aload_n 1, 1) := by decide +kernel
theorem dX0_layMirrors_26 : decode cX0_layMirrors 26 = .ok (.getfield 9, 3) := by decide +kernel
theorem dX0_layMirrors_29 : decode cX0_layMirrors 29 = .ok (.imul, 1) := by decide +kernel
theorem dX0_layMirrors_30 : decode cX0_layMirrors 30 = .ok (.if_icmp .ge 38, 3) := by decide +kernel
theorem dX0_layMirrors_33 : decode cX0_layMirrors 33 = .ok (.aload_n 1, 1) := by decide +kernel
theorem dX0_layMirrors_34 : decode cX0_layMirrors 34 = .ok (.iload 5, 2) := by decide +kernel
theorem dX0_layMirrors_36 : decode cX0_layMirrors 36 = .ok (.iload 4, 2) := by decide +kernel
theorem dX0_layMirrors_38 : decode cX0_layMirrors 38 = .ok (.invokevirtual 54, 3) := by decide +kernel
theorem dX0_layMirrors_41 : decode cX0_layMirrors 41 = .ok (.istore 6, 2) := by decide +kernel
theorem dX0_layMirrors_43 : decode cX0_layMirrors 43 = .ok (.iload 6, 2) := by decide +kernel
theorem dX0_layMirrors_45 : decode cX0_layMirrors 45 = .ok (.ifCond .eq 17, 3) := by decide +kernel
theorem dX0_layMirrors_48 : decode cX0_layMirrors 48 = .ok (.aload_n 0, 1) := by decide +kernel
theorem dX0_layMirrors_49 : decode cX0_layMirrors 49 = .ok (.iload 5, 2) := by decide +kernel
theorem dX0_layMirrors_51 : decode cX0_layMirrors 51 = .ok (.iload_n 2, 1) := by decide +kernel
theorem dX0_layMirrors_52 : decode cX0_layMirrors 52 = .ok (.iadd, 1) := by decide +kernel
theorem dX0_layMirrors_53 : decode cX0_layMirrors 53 = .ok (.iload 4, 2) := by decide +kernel
theorem dX0_layMirrors_55 : decode cX0_layMirrors 55 = .ok (.iload_n 3, 1) := by decide +kernel
theorem dX0_layMirrors_56 : decode cX0_layMirrors 56 = .ok (.iadd, 1) := by decide +kernel
theorem dX0_layMirrors_57 : decode cX0_layMirrors 57 = .ok (.iload 6, 2) := by decide +kernel
theorem dX0_layMirrors_59 : decode cX0_layMirrors 59 = .ok (.invokevirtual 64, 3) := by decide +kernel
theorem dX0_layMirrors_62 : decode cX0_layMirrors 62 = .ok (.iinc 5 2, 3) := by decide +kernel
theorem dX0_layMirrors_65 : decode cX0_layMirrors 65 = .ok (.goto (-43), 3) := by decide +kernel
theorem dX0_layMirrors_68 : decode cX0_layMirrors 68 = .ok (.iinc 4 1, 3) := by decide +kernel
theorem dX0_layMirrors_71 : decode cX0_layMirrors 71 = .ok (.goto (-68), 3) := by decide +kernel
theorem dX0_layMirrors_74 : decode cX0_layMirrors 74 = .ok (.return_, 1) := by decide +kernel
theorem dX1_init_0 : decode cX1_init 0 = .ok (.aload_n 0, 1) := by decide +kernel
theorem dX1_init_1 : decode cX1_init 1 = .ok (.invokespecial 3, 3) := by decide +kernel
theorem dX1_init_4 : decode cX1_init 4 = .ok (.aload_n 0, 1) := by decide +kernel
theorem dX1_init_5 : decode cX1_init 5 = .ok (.sipush 128, 3) := by decide +kernel
theorem dX1_init_8 : decode cX1_init 8 = .ok (.newarray .int, 2) := by decide +kernel
theorem dX1_init_10 : decode cX1_init 10 = .ok (.putfield 9, 3) := by decide +kernel
theorem dX1_init_13 : decode cX1_init 13 = .ok (.aload_n 0, 1) := by decide +kernel
theorem dX1_init_14 : decode cX1_init 14 = .ok (.sipush 128, 3) := by decide +kernel
theorem dX1_init_17 : decode cX1_init 17 = .ok (.newarray .int, 2) := by decide +kernel
theorem dX1_init_19 : decode cX1_init 19 = .ok (.putfield 15, 3) := by decide +kernel
theorem dX1_init_22 : decode cX1_init 22 = .ok (.aload_n 0, 1) := by decide +kernel
theorem dX1_init_23 : decode cX1_init 23 = .ok (.sipush 256, 3) := by decide +kernel
theorem dX1_init_26 : decode cX1_init 26 = .ok (.newarray .int, 2) := by decide +kernel
theorem dX1_init_28 : decode cX1_init 28 = .ok (.putfield 18, 3) := by decide +kernel
theorem dX1_init_31 : decode cX1_init 31 = .ok (.return_, 1) := by decide +kernel
theorem dX1_choose_0 : decode cX1_choose 0 = .ok (.aload_n 0, 1) := by decide +kernel
theorem dX1_choose_1 : decode cX1_choose 1 = .ok (.iconst 0, 1) := by decide +kernel
theorem dX1_choose_2 : decode cX1_choose 2 = .ok (.putfield 21, 3) := by decide +kernel
theorem dX1_choose_5 : decode cX1_choose 5 = .ok (.iconst 0, 1) := by decide +kernel
theorem dX1_choose_6 : decode cX1_choose 6 = .ok (.istore 4, 2) := by decide +kernel
theorem dX1_choose_8 : decode cX1_choose 8 = .ok (.iload 4, 2) := by decide +kernel
theorem dX1_choose_10 : decode cX1_choose 10 = .ok (.sipush 256, 3) := by decide +kernel
theorem dX1_choose_13 : decode cX1_choose 13 = .ok (.if_icmp .ge 18, 3) := by decide +kernel
theorem dX1_choose_16 : decode cX1_choose 16 = .ok (.aload_n 0, 1) := by decide +kernel
theorem dX1_choose_17 : decode cX1_choose 17 = .ok (.getfield 18, 3) := by decide +kernel
theorem dX1_choose_20 : decode cX1_choose 20 = .ok (.iload 4, 2) := by decide +kernel
theorem dX1_choose_22 : decode cX1_choose 22 = .ok (.iload 4, 2) := by decide +kernel
theorem dX1_choose_24 : decode cX1_choose 24 = .ok (.iastore, 1) := by decide +kernel
theorem dX1_choose_25 : decode cX1_choose 25 = .ok (.iinc 4 1, 3) := by decide +kernel
theorem dX1_choose_28 : decode cX1_choose 28 = .ok (.goto (-20), 3) := by decide +kernel
theorem dX1_choose_31 : decode cX1_choose 31 = .ok (.iconst 1, 1) := by decide +kernel
theorem dX1_choose_32 : decode cX1_choose 32 = .ok (.istore 4, 2) := by decide +kernel
theorem dX1_choose_34 : decode cX1_choose 34 = .ok (.iload 4, 2) := by decide +kernel
theorem dX1_choose_36 : decode cX1_choose 36 = .ok (.iconst 2, 1) := by decide +kernel
theorem dX1_choose_37 : decode cX1_choose 37 = .ok (.aload_n 1, 1) := by decide +kernel
theorem dX1_choose_38 : decode cX1_choose 38 = .ok (.getfield 25, 3) := by decide +kernel
theorem dX1_choose_41 : decode cX1_choose 41 = .ok (.imul, 1) := by decide +kernel
theorem dX1_choose_42 : decode cX1_choose 42 = .ok (.if_icmp .ge 56, 3) := by decide +kernel
theorem dX1_choose_45 : decode cX1_choose 45 = .ok (.iconst 1, 1) := by decide +kernel
theorem dX1_choose_46 : decode cX1_choose 46 = .ok (.iload 4, 2) := by decide +kernel
theorem dX1_choose_48 : decode cX1_choose 48 = .ok (.iconst 1, 1) := by decide +kernel
theorem dX1_choose_49 : decode cX1_choose 49 = .ok (.iand, 1) := by decide +kernel
theorem dX1_choose_50 : decode cX1_choose 50 = .ok (.iadd, 1) := by decide +kernel
theorem dX1_choose_51 : decode cX1_choose 51 = .ok (.istore 5, 2) := by decide +kernel
theorem dX1_choose_53 : decode cX1_choose 53 = .ok (.iload 5, 2) := by decide +kernel
theorem dX1_choose_55 : decode cX1_choose 55 = .ok (.iconst 2, 1) := by decide +kernel
theorem dX1_choose_56 : decode cX1_choose 56 = .ok (.aload_n 1, 1) := by decide +kernel
theorem dX1_choose_57 : decode cX1_choose 57 = .ok (.getfield 30, 3) := by decide +kernel
theorem dX1_choose_60 : decode cX1_choose 60 = .ok (.imul, 1) := by decide +kernel
theorem dX1_choose_61 : decode cX1_choose 61 = .ok (.if_icmp .ge 31, 3) := by decide +kernel
theorem dX1_choose_64 : decode cX1_choose 64 = .ok (.aload_n 2, 1) := by decide +kernel
theorem dX1_choose_65 : decode cX1_choose 65 = .ok (.iload 5, 2) := by decide +kernel
theorem dX1_choose_67 : decode cX1_choose 67 = .ok (.iload 4, 2) := by decide +kernel
theorem dX1_choose_69 : decode cX1_choose 69 = .ok (.invokestatic 33, 3) := by decide +kernel
theorem dX1_choose_72 : decode cX1_choose 72 = .ok (.iaload, 1) := by decide +kernel
theorem dX1_choose_73 : decode cX1_choose 73 = .ok (.ifCond .ne 13, 3) := by decide +kernel
theorem dX1_choose_76 : decode cX1_choose 76 = .ok (.aload_n 0, 1) := by decide +kernel
theorem dX1_choose_77 : decode cX1_choose 77 = .ok (.aload_n 1, 1) := by decide +kernel
theorem dX1_choose_78 : decode cX1_choose 78 = .ok (.aload_n 3, 1) := by decide +kernel
theorem dX1_choose_79 : decode cX1_choose 79 = .ok (.iload 5, 2) := by decide +kernel
theorem dX1_choose_81 : decode cX1_choose 81 = .ok (.iload 4, 2) := by decide +kernel
theorem dX1_choose_83 : decode cX1_choose 83 = .ok (.invokevirtual 37, 3) := by decide +kernel
theorem dX1_choose_86 : decode cX1_choose 86 = .ok (.iinc 5 2, 3) := by decide +kernel
theorem dX1_choose_89 : decode cX1_choose 89 = .ok (.goto (-36), 3) := by decide +kernel
theorem dX1_choose_92 : decode cX1_choose 92 = .ok (.iinc 4 1, 3) := by decide +kernel
theorem dX1_choose_95 : decode cX1_choose 95 = .ok (.goto (-61), 3) := by decide +kernel
theorem dX1_choose_98 : decode cX1_choose 98 = .ok (.return_, 1) := by decide +kernel
theorem dX1_tryPoint_0 : decode cX1_tryPoint 0 = .ok (.iconst 2, 1) := by decide +kernel
theorem dX1_tryPoint_1 : decode cX1_tryPoint 1 = .ok (.aload_n 1, 1) := by decide +kernel
theorem dX1_tryPoint_2 : decode cX1_tryPoint 2 = .ok (.getfield 30, 3) := by decide +kernel
theorem dX1_tryPoint_5 : decode cX1_tryPoint 5 = .ok (.imul, 1) := by decide +kernel
theorem dX1_tryPoint_6 : decode cX1_tryPoint 6 = .ok (.istore 5, 2) := by decide +kernel
theorem dX1_tryPoint_8 : decode cX1_tryPoint 8 = .ok (.iload 5, 2) := by decide +kernel
theorem dX1_tryPoint_10 : decode cX1_tryPoint 10 = .ok (.iload 4, 2) := by decide +kernel
theorem dX1_tryPoint_12 : decode cX1_tryPoint 12 = .ok (.imul, 1) := by decide +kernel
theorem dX1_tryPoint_13 : decode cX1_tryPoint 13 = .ok (.iload_n 3, 1) := by decide +kernel
theorem dX1_tryPoint_14 : decode cX1_tryPoint 14 = .ok (.iadd, 1) := by decide +kernel
theorem dX1_tryPoint_15 : decode cX1_tryPoint 15 = .ok (.istore 6, 2) := by decide +kernel
theorem dX1_tryPoint_17 : decode cX1_tryPoint 17 = .ok (.iload 6, 2) := by decide +kernel
theorem dX1_tryPoint_19 : decode cX1_tryPoint 19 = .ok (.iload 5, 2) := by decide +kernel
theorem dX1_tryPoint_21 : decode cX1_tryPoint 21 = .ok (.isub, 1) := by decide +kernel
theorem dX1_tryPoint_22 : decode cX1_tryPoint 22 = .ok (.istore 7, 2) := by decide +kernel
theorem dX1_tryPoint_24 : decode cX1_tryPoint 24 = .ok (.iload 7, 2) := by decide +kernel
theorem dX1_tryPoint_26 : decode cX1_tryPoint 26 = .ok (.iconst 1, 1) := by decide +kernel
theorem dX1_tryPoint_27 : decode cX1_tryPoint 27 = .ok (.isub, 1) := by decide +kernel
theorem dX1_tryPoint_28 : decode cX1_tryPoint 28 = .ok (.istore 8, 2) := by decide +kernel
theorem dX1_tryPoint_30 : decode cX1_tryPoint 30 = .ok (.aload_n 1, 1) := by decide +kernel
theorem dX1_tryPoint_31 : decode cX1_tryPoint 31 = .ok (.iload_n 3, 1) := by decide +kernel
theorem dX1_tryPoint_32 : decode cX1_tryPoint 32 = .ok (.iload 4, 2) := by decide +kernel
theorem dX1_tryPoint_34 : decode cX1_tryPoint 34 = .ok (.invokevirtual 41, 3) := by decide +kernel
theorem dX1_tryPoint_37 : decode cX1_tryPoint 37 = .ok (.ifCond .ne 7, 3) := by decide +kernel
theorem dX1_tryPoint_40 : decode cX1_tryPoint 40 = .ok (.iconst 1, 1) := by decide +kernel
theorem dX1_tryPoint_41 : decode cX1_tryPoint 41 = .ok (.goto 4, 3) := by decide +kernel
theorem dX1_tryPoint_44 : decode cX1_tryPoint 44 = .ok (.iconst 0, 1) := by decide +kernel
theorem dX1_tryPoint_45 : decode cX1_tryPoint 45 = .ok (.istore 9, 2) := by decide +kernel
theorem dX1_tryPoint_47 : decode cX1_tryPoint 47 = .ok (.aload_n 2, 1) := by decide +kernel
theorem dX1_tryPoint_48 : decode cX1_tryPoint 48 = .ok (.iload 8, 2) := by decide +kernel
theorem dX1_tryPoint_50 : decode cX1_tryPoint 50 = .ok (.invokevirtual 44, 3) := by decide +kernel
theorem dX1_tryPoint_53 : decode cX1_tryPoint 53 = .ok (.istore 10, 2) := by decide +kernel
theorem dX1_tryPoint_55 : decode cX1_tryPoint 55 = .ok (.aload_n 2, 1) := by decide +kernel
theorem dX1_tryPoint_56 : decode cX1_tryPoint 56 = .ok (.iload 9, 2) := by decide +kernel
theorem dX1_tryPoint_58 : decode cX1_tryPoint 58 = .ok (.ifCond .eq 8, 3) := by decide +kernel
theorem dX1_tryPoint_61 : decode cX1_tryPoint 61 = .ok (.iload 7, 2) := by decide +kernel
theorem dX1_tryPoint_63 : decode cX1_tryPoint 63 = .ok (.goto 5, 3) := by decide +kernel
theorem dX1_tryPoint_66 : decode cX1_tryPoint 66 = .ok (.iload 6, 2) := by decide +kernel
theorem dX1_tryPoint_68 : decode cX1_tryPoint 68 = .ok (.invokevirtual 44, 3) := by decide +kernel
theorem dX1_tryPoint_71 : decode cX1_tryPoint 71 = .ok (.istore 11, 2) := by decide +kernel
theorem dX1_tryPoint_73 : decode cX1_tryPoint 73 = .ok (.iload 10, 2) := by decide +kernel
theorem dX1_tryPoint_75 : decode cX1_tryPoint 75 = .ok (.ifCond .lt 18, 3) := by decide +kernel
theorem dX1_tryPoint_78 : decode cX1_tryPoint 78 = .ok (.iload 11, 2) := by decide +kernel
theorem dX1_tryPoint_80 : decode cX1_tryPoint 80 = .ok (.ifCond .lt 13, 3) := by decide +kernel
theorem dX1_tryPoint_83 : decode cX1_tryPoint 83 = .ok (.aload_n 0, 1) := by decide +kernel
theorem dX1_tryPoint_84 : decode cX1_tryPoint 84 = .ok (.getfield 21, 3) := by decide +kernel
theorem dX1_tryPoint_87 : decode cX1_tryPoint 87 = .ok (.sipush 128, 3) := by decide +kernel
theorem dX1_tryPoint_90 : decode cX1_tryPoint 90 = .ok (.if_icmp .lt 4, 3) := by decide +kernel
theorem dX1_tryPoint_93 : decode cX1_tryPoint 93 = .ok (.return_, 1) := by decide +kernel
theorem dX1_tryPoint_94 : decode cX1_tryPoint 94 = .ok (.aload_n 0, 1) := by decide +kernel
theorem dX1_tryPoint_95 : decode cX1_tryPoint 95 = .ok (.getfield 18, 3) := by decide +kernel
theorem dX1_tryPoint_98 : decode cX1_tryPoint 98 = .ok (.iload 10, 2) := by decide +kernel
theorem dX1_tryPoint_100 : decode cX1_tryPoint 100 = .ok (.iaload, 1) := by decide +kernel
theorem dX1_tryPoint_101 : decode cX1_tryPoint 101 = .ok (.aload_n 0, 1) := by decide +kernel
theorem dX1_tryPoint_102 : decode cX1_tryPoint 102 = .ok (.getfield 18, 3) := by decide +kernel
theorem dX1_tryPoint_105 : decode cX1_tryPoint 105 = .ok (.iload 11, 2) := by decide +kernel
theorem dX1_tryPoint_107 : decode cX1_tryPoint 107 = .ok (.iaload, 1) := by decide +kernel
theorem dX1_tryPoint_108 : decode cX1_tryPoint 108 = .ok (.if_icmp .eq 52, 3) := by decide +kernel
theorem dX1_tryPoint_111 : decode cX1_tryPoint 111 = .ok (.aload_n 0, 1) := by decide +kernel
theorem dX1_tryPoint_112 : decode cX1_tryPoint 112 = .ok (.aload_n 0, 1) := by decide +kernel
theorem dX1_tryPoint_113 : decode cX1_tryPoint 113 = .ok (.getfield 18, 3) := by decide +kernel
theorem dX1_tryPoint_116 : decode cX1_tryPoint 116 = .ok (.iload 10, 2) := by decide +kernel
theorem dX1_tryPoint_118 : decode cX1_tryPoint 118 = .ok (.iaload, 1) := by decide +kernel
theorem dX1_tryPoint_119 : decode cX1_tryPoint 119 = .ok (.aload_n 0, 1) := by decide +kernel
theorem dX1_tryPoint_120 : decode cX1_tryPoint 120 = .ok (.getfield 18, 3) := by decide +kernel
theorem dX1_tryPoint_123 : decode cX1_tryPoint 123 = .ok (.iload 11, 2) := by decide +kernel
theorem dX1_tryPoint_125 : decode cX1_tryPoint 125 = .ok (.iaload, 1) := by decide +kernel
theorem dX1_tryPoint_126 : decode cX1_tryPoint 126 = .ok (.invokevirtual 50, 3) := by decide +kernel
theorem dX1_tryPoint_129 : decode cX1_tryPoint 129 = .ok (.aload_n 0, 1) := by decide +kernel
theorem dX1_tryPoint_130 : decode cX1_tryPoint 130 = .ok (.getfield 9, 3) := by decide +kernel
theorem dX1_tryPoint_133 : decode cX1_tryPoint 133 = .ok (.aload_n 0, 1) := by decide +kernel
theorem dX1_tryPoint_134 : decode cX1_tryPoint 134 = .ok (.getfield 21, 3) := by decide +kernel
theorem dX1_tryPoint_137 : decode cX1_tryPoint 137 = .ok (.iload_n 3, 1) := by decide +kernel
theorem dX1_tryPoint_138 : decode cX1_tryPoint 138 = .ok (.iastore, 1) := by decide +kernel
theorem dX1_tryPoint_139 : decode cX1_tryPoint 139 = .ok (.aload_n 0, 1) := by decide +kernel
theorem dX1_tryPoint_140 : decode cX1_tryPoint 140 = .ok (.getfield 15, 3) := by decide +kernel
theorem dX1_tryPoint_143 : decode cX1_tryPoint 143 = .ok (.aload_n 0, 1) := by decide +kernel
theorem dX1_tryPoint_144 : decode cX1_tryPoint 144 = .ok (.getfield 21, 3) := by decide +kernel
theorem dX1_tryPoint_147 : decode cX1_tryPoint 147 = .ok (.iload 4, 2) := by decide +kernel
theorem dX1_tryPoint_149 : decode cX1_tryPoint 149 = .ok (.iastore, 1) := by decide +kernel
theorem dX1_tryPoint_150 : decode cX1_tryPoint 150 = .ok (.aload_n 0, 1) := by decide +kernel
theorem dX1_tryPoint_151 : decode cX1_tryPoint 151 = .ok (.dup, 1) := by decide +kernel
theorem dX1_tryPoint_152 : decode cX1_tryPoint 152 = .ok (.getfield 21, 3) := by decide +kernel
theorem dX1_tryPoint_155 : decode cX1_tryPoint 155 = .ok (.iconst 1, 1) := by decide +kernel
theorem dX1_tryPoint_156 : decode cX1_tryPoint 156 = .ok (.iadd, 1) := by decide +kernel
theorem dX1_tryPoint_157 : decode cX1_tryPoint 157 = .ok (.putfield 21, 3) := by decide +kernel
theorem dX1_tryPoint_160 : decode cX1_tryPoint 160 = .ok (.return_, 1) := by decide +kernel
theorem dX1_unite_0 : decode cX1_unite 0 = .ok (.iconst 0, 1) := by decide +kernel
theorem dX1_unite_1 : decode cX1_unite 1 = .ok (.istore_n 3, 1) := by decide +kernel
theorem dX1_unite_2 : decode cX1_unite 2 = .ok (.iload_n 3, 1) := by decide +kernel
theorem dX1_unite_3 : decode cX1_unite 3 = .ok (.sipush 256, 3) := by decide +kernel
theorem dX1_unite_6 : decode cX1_unite 6 = .ok (.if_icmp .ge 26, 3) := by decide +kernel
theorem dX1_unite_9 : decode cX1_unite 9 = .ok (.aload_n 0, 1) := by decide +kernel
theorem dX1_unite_10 : decode cX1_unite 10 = .ok (.getfield 18, 3) := by decide +kernel
theorem dX1_unite_13 : decode cX1_unite 13 = .ok (.iload_n 3, 1) := by decide +kernel
theorem dX1_unite_14 : decode cX1_unite 14 = .ok (.iaload, 1) := by decide +kernel
theorem dX1_unite_15 : decode cX1_unite 15 = .ok (.iload_n 2, 1) := by decide +kernel
theorem dX1_unite_16 : decode cX1_unite 16 = .ok (.if_icmp .ne 10, 3) := by decide +kernel
theorem dX1_unite_19 : decode cX1_unite 19 = .ok (.aload_n 0, 1) := by decide +kernel
theorem dX1_unite_20 : decode cX1_unite 20 = .ok (.getfield 18, 3) := by decide +kernel
theorem dX1_unite_23 : decode cX1_unite 23 = .ok (.iload_n 3, 1) := by decide +kernel
theorem dX1_unite_24 : decode cX1_unite 24 = .ok (.iload_n 1, 1) := by decide +kernel
theorem dX1_unite_25 : decode cX1_unite 25 = .ok (.iastore, 1) := by decide +kernel
theorem dX1_unite_26 : decode cX1_unite 26 = .ok (.iinc 3 1, 3) := by decide +kernel
theorem dX1_unite_29 : decode cX1_unite 29 = .ok (.goto (-27), 3) := by decide +kernel
theorem dX1_unite_32 : decode cX1_unite 32 = .ok (.return_, 1) := by decide +kernel
theorem dX1_columnOf_0 : decode cX1_columnOf 0 = .ok (.iload_n 1, 1) := by decide +kernel
theorem dX1_columnOf_1 : decode cX1_columnOf 1 = .ok (.ifCond .lt 20, 3) := by decide +kernel
theorem dX1_columnOf_4 : decode cX1_columnOf 4 = .ok (.iload_n 1, 1) := by decide +kernel
theorem dX1_columnOf_5 : decode cX1_columnOf 5 = .ok (.aload_n 0, 1) := by decide +kernel
theorem dX1_columnOf_6 : decode cX1_columnOf 6 = .ok (.getfield 21, 3) := by decide +kernel
theorem dX1_columnOf_9 : decode cX1_columnOf 9 = .ok (.if_icmp .ge 12, 3) := by decide +kernel
theorem dX1_columnOf_12 : decode cX1_columnOf 12 = .ok (.aload_n 0, 1) := by decide +kernel
theorem dX1_columnOf_13 : decode cX1_columnOf 13 = .ok (.getfield 9, 3) := by decide +kernel
theorem dX1_columnOf_16 : decode cX1_columnOf 16 = .ok (.iload_n 1, 1) := by decide +kernel
theorem dX1_columnOf_17 : decode cX1_columnOf 17 = .ok (.iaload, 1) := by decide +kernel
theorem dX1_columnOf_18 : decode cX1_columnOf 18 = .ok (.goto 4, 3) := by decide +kernel
theorem dX1_columnOf_21 : decode cX1_columnOf 21 = .ok (.iconst (-1), 1) := by decide +kernel
theorem dX1_columnOf_22 : decode cX1_columnOf 22 = .ok (.ireturn, 1) := by decide +kernel
theorem dX1_rowOf_0 : decode cX1_rowOf 0 = .ok (.iload_n 1, 1) := by decide +kernel
theorem dX1_rowOf_1 : decode cX1_rowOf 1 = .ok (.ifCond .lt 20, 3) := by decide +kernel
theorem dX1_rowOf_4 : decode cX1_rowOf 4 = .ok (.iload_n 1, 1) := by decide +kernel
theorem dX1_rowOf_5 : decode cX1_rowOf 5 = .ok (.aload_n 0, 1) := by decide +kernel
theorem dX1_rowOf_6 : decode cX1_rowOf 6 = .ok (.getfield 21, 3) := by decide +kernel
theorem dX1_rowOf_9 : decode cX1_rowOf 9 = .ok (.if_icmp .ge 12, 3) := by decide +kernel
theorem dX1_rowOf_12 : decode cX1_rowOf 12 = .ok (.aload_n 0, 1) := by decide +kernel
theorem dX1_rowOf_13 : decode cX1_rowOf 13 = .ok (.getfield 15, 3) := by decide +kernel
theorem dX1_rowOf_16 : decode cX1_rowOf 16 = .ok (.iload_n 1, 1) := by decide +kernel
theorem dX1_rowOf_17 : decode cX1_rowOf 17 = .ok (.iaload, 1) := by decide +kernel
theorem dX1_rowOf_18 : decode cX1_rowOf 18 = .ok (.goto 4, 3) := by decide +kernel
theorem dX1_rowOf_21 : decode cX1_rowOf 21 = .ok (.iconst (-1), 1) := by decide +kernel
theorem dX1_rowOf_22 : decode cX1_rowOf 22 = .ok (.ireturn, 1) := by decide +kernel
theorem dX2_init_0 : decode cX2_init 0 = .ok (.aload_n 0, 1) := by decide +kernel
theorem dX2_init_1 : decode cX2_init 1 = .ok (.invokespecial 3, 3) := by decide +kernel
theorem dX2_init_4 : decode cX2_init 4 = .ok (.aload_n 0, 1) := by decide +kernel
theorem dX2_init_5 : decode cX2_init 5 = .ok (.sipush 256, 3) := by decide +kernel
theorem dX2_init_8 : decode cX2_init 8 = .ok (.newarray .int, 2) := by decide +kernel
theorem dX2_init_10 : decode cX2_init 10 = .ok (.putfield 9, 3) := by decide +kernel
theorem dX2_init_13 : decode cX2_init 13 = .ok (.aload_n 0, 1) := by decide +kernel
theorem dX2_init_14 : decode cX2_init 14 = .ok (.sipush 256, 3) := by decide +kernel
theorem dX2_init_17 : decode cX2_init 17 = .ok (.newarray .int, 2) := by decide +kernel
theorem dX2_init_19 : decode cX2_init 19 = .ok (.putfield 15, 3) := by decide +kernel
theorem dX2_init_22 : decode cX2_init 22 = .ok (.aload_n 0, 1) := by decide +kernel
theorem dX2_init_23 : decode cX2_init 23 = .ok (.sipush 256, 3) := by decide +kernel
theorem dX2_init_26 : decode cX2_init 26 = .ok (.newarray .int, 2) := by decide +kernel
theorem dX2_init_28 : decode cX2_init 28 = .ok (.putfield 18, 3) := by decide +kernel
theorem dX2_init_31 : decode cX2_init 31 = .ok (.aload_n 0, 1) := by decide +kernel
theorem dX2_init_32 : decode cX2_init 32 = .ok (.sipush 257, 3) := by decide +kernel
theorem dX2_init_35 : decode cX2_init 35 = .ok (.newarray .int, 2) := by decide +kernel
theorem dX2_init_37 : decode cX2_init 37 = .ok (.putfield 21, 3) := by decide +kernel
theorem dX2_init_40 : decode cX2_init 40 = .ok (.return_, 1) := by decide +kernel
theorem dX2_findAll_0 : decode cX2_findAll 0 = .ok (.aload_n 0, 1) := by decide +kernel
theorem dX2_findAll_1 : decode cX2_findAll 1 = .ok (.getfield 9, 3) := by decide +kernel
theorem dX2_findAll_4 : decode cX2_findAll 4 = .ok (.iconst (-1), 1) := by decide +kernel
theorem dX2_findAll_5 : decode cX2_findAll 5 = .ok (.invokestatic 24, 3) := by decide +kernel
theorem dX2_findAll_8 : decode cX2_findAll 8 = .ok (.aload_n 0, 1) := by decide +kernel
theorem dX2_findAll_9 : decode cX2_findAll 9 = .ok (.iconst 0, 1) := by decide +kernel
theorem dX2_findAll_10 : decode cX2_findAll 10 = .ok (.putfield 30, 3) := by decide +kernel
theorem dX2_findAll_13 : decode cX2_findAll 13 = .ok (.aload_n 0, 1) := by decide +kernel
theorem dX2_findAll_14 : decode cX2_findAll 14 = .ok (.getfield 21, 3) := by decide +kernel
theorem dX2_findAll_17 : decode cX2_findAll 17 = .ok (.iconst 0, 1) := by decide +kernel
theorem dX2_findAll_18 : decode cX2_findAll 18 = .ok (.iconst 0, 1) := by decide +kernel
theorem dX2_findAll_19 : decode cX2_findAll 19 = .ok (.iastore, 1) := by decide +kernel
theorem dX2_findAll_20 : decode cX2_findAll 20 = .ok (.iconst 0, 1) := by decide +kernel
theorem dX2_findAll_21 : decode cX2_findAll 21 = .ok (.istore_n 2, 1) := by decide +kernel
theorem dX2_findAll_22 : decode cX2_findAll 22 = .ok (.iload_n 2, 1) := by decide +kernel
theorem dX2_findAll_23 : decode cX2_findAll 23 = .ok (.iconst 2, 1) := by decide +kernel
theorem dX2_findAll_24 : decode cX2_findAll 24 = .ok (.aload_n 1, 1) := by decide +kernel
theorem dX2_findAll_25 : decode cX2_findAll 25 = .ok (.getfield 34, 3) := by decide +kernel
theorem dX2_findAll_28 : decode cX2_findAll 28 = .ok (.imul, 1) := by decide +kernel
theorem dX2_findAll_29 : decode cX2_findAll 29 = .ok (.if_icmp .ge 52, 3) := by decide +kernel
theorem dX2_findAll_32 : decode cX2_findAll 32 = .ok (.iconst 0, 1) := by decide +kernel
theorem dX2_findAll_33 : decode cX2_findAll 33 = .ok (.istore_n 3, 1) := by decide +kernel
theorem dX2_findAll_34 : decode cX2_findAll 34 = .ok (.iload_n 3, 1) := by decide +kernel
theorem dX2_findAll_35 : decode cX2_findAll 35 = .ok (.iconst 2, 1) := by decide +kernel
theorem dX2_findAll_36 : decode cX2_findAll 36 = .ok (.aload_n 1, 1) := by decide +kernel
theorem dX2_findAll_37 : decode cX2_findAll 37 = .ok (.getfield 39, 3) := by decide +kernel
theorem dX2_findAll_40 : decode cX2_findAll 40 = .ok (.imul, 1) := by decide +kernel
theorem dX2_findAll_41 : decode cX2_findAll 41 = .ok (.if_icmp .ge 34, 3) := by decide +kernel
theorem dX2_findAll_44 : decode cX2_findAll 44 = .ok (.aload_n 0, 1) := by decide +kernel
theorem dX2_findAll_45 : decode cX2_findAll 45 = .ok (.iconst 2, 1) := by decide +kernel
theorem dX2_findAll_46 : decode cX2_findAll 46 = .ok (.aload_n 1, 1) := by decide +kernel
theorem dX2_findAll_47 : decode cX2_findAll 47 = .ok (.getfield 39, 3) := by decide +kernel
theorem dX2_findAll_50 : decode cX2_findAll 50 = .ok (.imul, 1) := by decide +kernel
theorem dX2_findAll_51 : decode cX2_findAll 51 = .ok (.iload_n 2, 1) := by decide +kernel
theorem dX2_findAll_52 : decode cX2_findAll 52 = .ok (.imul, 1) := by decide +kernel
theorem dX2_findAll_53 : decode cX2_findAll 53 = .ok (.iload_n 3, 1) := by decide +kernel
theorem dX2_findAll_54 : decode cX2_findAll 54 = .ok (.iadd, 1) := by decide +kernel
theorem dX2_findAll_55 : decode cX2_findAll 55 = .ok (.invokevirtual 42, 3) := by decide +kernel
theorem dX2_findAll_58 : decode cX2_findAll 58 = .ok (.iconst (-1), 1) := by decide +kernel
theorem dX2_findAll_59 : decode cX2_findAll 59 = .ok (.if_icmp .ne 10, 3) := by decide +kernel
theorem dX2_findAll_62 : decode cX2_findAll 62 = .ok (.aload_n 0, 1) := by decide +kernel
theorem dX2_findAll_63 : decode cX2_findAll 63 = .ok (.aload_n 1, 1) := by decide +kernel
theorem dX2_findAll_64 : decode cX2_findAll 64 = .ok (.iload_n 3, 1) := by decide +kernel
theorem dX2_findAll_65 : decode cX2_findAll 65 = .ok (.iload_n 2, 1) := by decide +kernel
theorem dX2_findAll_66 : decode cX2_findAll 66 = .ok (.invokevirtual 46, 3) := by decide +kernel
theorem dX2_findAll_69 : decode cX2_findAll 69 = .ok (.iinc 3 1, 3) := by decide +kernel
theorem dX2_findAll_72 : decode cX2_findAll 72 = .ok (.goto (-38), 3) := by decide +kernel
theorem dX2_findAll_75 : decode cX2_findAll 75 = .ok (.iinc 2 1, 3) := by decide +kernel
theorem dX2_findAll_78 : decode cX2_findAll 78 = .ok (.goto (-56), 3) := by decide +kernel
theorem dX2_findAll_81 : decode cX2_findAll 81 = .ok (.return_, 1) := by decide +kernel
theorem dX2_follow_0 : decode cX2_follow 0 = .ok (.aload_n 0, 1) := by decide +kernel
theorem dX2_follow_1 : decode cX2_follow 1 = .ok (.getfield 21, 3) := by decide +kernel
theorem dX2_follow_4 : decode cX2_follow 4 = .ok (.aload_n 0, 1) := by decide +kernel
theorem dX2_follow_5 : decode cX2_follow 5 = .ok (.getfield 30, 3) := by decide +kernel
theorem dX2_follow_8 : decode cX2_follow 8 = .ok (.iaload, 1) := by decide +kernel
theorem dX2_follow_9 : decode cX2_follow 9 = .ok (.istore 4, 2) := by decide +kernel
theorem dX2_follow_11 : decode cX2_follow 11 = .ok (.iload 4, 2) := by decide +kernel
theorem dX2_follow_13 : decode cX2_follow 13 = .ok (.istore 5, 2) := by decide +kernel
theorem dX2_follow_15 : decode cX2_follow 15 = .ok (.iload_n 2, 1) := by decide +kernel
theorem dX2_follow_16 : decode cX2_follow 16 = .ok (.istore 6, 2) := by decide +kernel
theorem dX2_follow_18 : decode cX2_follow 18 = .ok (.iload_n 3, 1) := by decide +kernel
theorem dX2_follow_19 : decode cX2_follow 19 = .ok (.istore 7, 2) := by decide +kernel
theorem dX2_follow_21 : decode cX2_follow 21 = .ok (.iconst 1, 1) := by decide +kernel
theorem dX2_follow_22 : decode cX2_follow 22 = .ok (.istore 8, 2) := by decide +kernel
theorem dX2_follow_24 : decode cX2_follow 24 = .ok (.iload 6, 2) := by decide +kernel
theorem dX2_follow_26 : decode cX2_follow 26 = .ok (.iload 7, 2) := by decide +kernel
theorem dX2_follow_28 : decode cX2_follow 28 = .ok (.iadd, 1) := by decide +kernel
theorem dX2_follow_29 : decode cX2_follow 29 = .ok (.iconst 1, 1) := by decide +kernel
theorem dX2_follow_30 : decode cX2_follow 30 = .ok (.iand, 1) := by decide +kernel
theorem dX2_follow_31 : decode cX2_follow 31 = .ok (.ifCond .ne 7, 3) := by decide +kernel
theorem dX2_follow_34 : decode cX2_follow 34 = .ok (.iconst (-1), 1) := by decide +kernel
theorem dX2_follow_35 : decode cX2_follow 35 = .ok (.goto 4, 3) := by decide +kernel
theorem dX2_follow_38 : decode cX2_follow 38 = .ok (.iconst 1, 1) := by decide +kernel
theorem dX2_follow_39 : decode cX2_follow 39 = .ok (.istore 9, 2) := by decide +kernel
theorem dX2_follow_41 : decode cX2_follow 41 = .ok (.iconst 0, 1) := by decide +kernel
theorem dX2_follow_42 : decode cX2_follow 42 = .ok (.istore 10, 2) := by decide +kernel
theorem dX2_follow_44 : decode cX2_follow 44 = .ok (.iload 10, 2) := by decide +kernel
theorem dX2_follow_46 : decode cX2_follow 46 = .ok (.sipush 256, 3) := by decide +kernel
theorem dX2_follow_49 : decode cX2_follow 49 = .ok (.if_icmp .ge 219, 3) := by decide +kernel
theorem dX2_follow_52 : decode cX2_follow 52 = .ok (.iconst 2, 1) := by decide +kernel
theorem dX2_follow_53 : decode cX2_follow 53 = .ok (.aload_n 1, 1) := by decide +kernel
theorem dX2_follow_54 : decode cX2_follow 54 = .ok (.getfield 39, 3) := by decide +kernel
theorem dX2_follow_57 : decode cX2_follow 57 = .ok (.imul, 1) := by decide +kernel
theorem dX2_follow_58 : decode cX2_follow 58 = .ok (.iload 7, 2) := by decide +kernel
theorem dX2_follow_60 : decode cX2_follow 60 = .ok (.imul, 1) := by decide +kernel
theorem dX2_follow_61 : decode cX2_follow 61 = .ok (.iload 6, 2) := by decide +kernel
theorem dX2_follow_63 : decode cX2_follow 63 = .ok (.iadd, 1) := by decide +kernel
theorem dX2_follow_64 : decode cX2_follow 64 = .ok (.istore 11, 2) := by decide +kernel
theorem dX2_follow_66 : decode cX2_follow 66 = .ok (.aload_n 1, 1) := by decide +kernel
theorem dX2_follow_67 : decode cX2_follow 67 = .ok (.iload 11, 2) := by decide +kernel
theorem dX2_follow_69 : decode cX2_follow 69 = .ok (.invokevirtual 50, 3) := by decide +kernel
theorem dX2_follow_72 : decode cX2_follow 72 = .ok (.ifCond .eq 196, 3) := by decide +kernel
theorem dX2_follow_75 : decode cX2_follow 75 = .ok (.aload_n 0, 1) := by decide +kernel
theorem dX2_follow_76 : decode cX2_follow 76 = .ok (.iload 11, 2) := by decide +kernel
theorem dX2_follow_78 : decode cX2_follow 78 = .ok (.invokevirtual 42, 3) := by decide +kernel
theorem dX2_follow_81 : decode cX2_follow 81 = .ok (.iconst (-1), 1) := by decide +kernel
theorem dX2_follow_82 : decode cX2_follow 82 = .ok (.if_icmp .ne 186, 3) := by decide +kernel
theorem dX2_follow_85 : decode cX2_follow 85 = .ok (.iload 5, 2) := by decide +kernel
theorem dX2_follow_87 : decode cX2_follow 87 = .ok (.sipush 256, 3) := by decide +kernel
theorem dX2_follow_90 : decode cX2_follow 90 = .ok (.if_icmp .lt 6, 3) := by decide +kernel
theorem dX2_follow_93 : decode cX2_follow 93 = .ok (.goto 175, 3) := by decide +kernel
theorem dX2_follow_96 : decode cX2_follow 96 = .ok (.aload_n 0, 1) := by decide +kernel
theorem dX2_follow_97 : decode cX2_follow 97 = .ok (.getfield 9, 3) := by decide +kernel
theorem dX2_follow_100 : decode cX2_follow 100 = .ok (.iload 11, 2) := by decide +kernel
theorem dX2_follow_102 : decode cX2_follow 102 = .ok (.aload_n 0, 1) := by decide +kernel
theorem dX2_follow_103 : decode cX2_follow 103 = .ok (.getfield 30, 3) := by decide +kernel
theorem dX2_follow_106 : decode cX2_follow 106 = .ok (.iastore, 1) := by decide +kernel
theorem dX2_follow_107 : decode cX2_follow 107 = .ok (.aload_n 0, 1) := by decide +kernel
theorem dX2_follow_108 : decode cX2_follow 108 = .ok (.getfield 15, 3) := by decide +kernel
theorem dX2_follow_111 : decode cX2_follow 111 = .ok (.iload 11, 2) := by decide +kernel
theorem dX2_follow_113 : decode cX2_follow 113 = .ok (.iload 5, 2) := by decide +kernel
theorem dX2_follow_115 : decode cX2_follow 115 = .ok (.iload 4, 2) := by decide +kernel
theorem dX2_follow_117 : decode cX2_follow 117 = .ok (.isub, 1) := by decide +kernel
theorem dX2_follow_118 : decode cX2_follow 118 = .ok (.iastore, 1) := by decide +kernel
theorem dX2_follow_119 : decode cX2_follow 119 = .ok (.aload_n 0, 1) := by decide +kernel
theorem dX2_follow_120 : decode cX2_follow 120 = .ok (.getfield 18, 3) := by decide +kernel
theorem dX2_follow_123 : decode cX2_follow 123 = .ok (.iload 5, 2) := by decide +kernel
theorem dX2_follow_125 : decode cX2_follow 125 = .ok (.iload 11, 2) := by decide +kernel
theorem dX2_follow_127 : decode cX2_follow 127 = .ok (.iastore, 1) := by decide +kernel
theorem dX2_follow_128 : decode cX2_follow 128 = .ok (.iinc 5 1, 3) := by decide +kernel
theorem dX2_follow_131 : decode cX2_follow 131 = .ok (.iload 8, 2) := by decide +kernel
theorem dX2_follow_133 : decode cX2_follow 133 = .ok (.ifCond .le 10, 3) := by decide +kernel
theorem dX2_follow_136 : decode cX2_follow 136 = .ok (.iload 6, 2) := by decide +kernel
theorem dX2_follow_138 : decode cX2_follow 138 = .ok (.iconst 1, 1) := by decide +kernel
theorem dX2_follow_139 : decode cX2_follow 139 = .ok (.iadd, 1) := by decide +kernel
theorem dX2_follow_140 : decode cX2_follow 140 = .ok (.goto 5, 3) := by decide +kernel
theorem dX2_follow_143 : decode cX2_follow 143 = .ok (.iload 6, 2) := by decide +kernel
theorem dX2_follow_145 : decode cX2_follow 145 = .ok (.istore 12, 2) := by decide +kernel
theorem dX2_follow_147 : decode cX2_follow 147 = .ok (.iload 9, 2) := by decide +kernel
theorem dX2_follow_149 : decode cX2_follow 149 = .ok (.ifCond .le 10, 3) := by decide +kernel
theorem dX2_follow_152 : decode cX2_follow 152 = .ok (.iload 7, 2) := by decide +kernel
theorem dX2_follow_154 : decode cX2_follow 154 = .ok (.iconst 1, 1) := by decide +kernel
theorem dX2_follow_155 : decode cX2_follow 155 = .ok (.iadd, 1) := by decide +kernel
theorem dX2_follow_156 : decode cX2_follow 156 = .ok (.goto 5, 3) := by decide +kernel
theorem dX2_follow_159 : decode cX2_follow 159 = .ok (.iload 7, 2) := by decide +kernel
theorem dX2_follow_161 : decode cX2_follow 161 = .ok (.istore 13, 2) := by decide +kernel
theorem dX2_follow_163 : decode cX2_follow 163 = .ok (.aload_n 1, 1) := by decide +kernel
theorem dX2_follow_164 : decode cX2_follow 164 = .ok (.iload 12, 2) := by decide +kernel
theorem dX2_follow_166 : decode cX2_follow 166 = .ok (.iload 13, 2) := by decide +kernel
theorem dX2_follow_168 : decode cX2_follow 168 = .ok (.invokevirtual 54, 3) := by decide +kernel
theorem dX2_follow_171 : decode cX2_follow 171 = .ok (.istore 14, 2) := by decide +kernel
theorem dX2_follow_173 : decode cX2_follow 173 = .ok (.iload 12, 2) := by decide +kernel
theorem dX2_follow_175 : decode cX2_follow 175 = .ok (.ifCond .eq 20, 3) := by decide +kernel
theorem dX2_follow_178 : decode cX2_follow 178 = .ok (.iload 12, 2) := by decide +kernel
theorem dX2_follow_180 : decode cX2_follow 180 = .ok (.iconst 2, 1) := by decide +kernel
theorem dX2_follow_181 : decode cX2_follow 181 = .ok (.aload_n 1, 1) := by decide +kernel
theorem dX2_follow_182 : decode cX2_follow 182 = .ok (.getfield 39, 3) := by decide +kernel
theorem dX2_follow_185 : decode cX2_follow 185 = .ok (.imul, 1) := by decide +kernel
theorem dX2_follow_186 : decode cX2_follow 186 = .ok (.if_icmp .eq 9, 3) := by decide +kernel
theorem dX2_follow_189 : decode cX2_follow 189 = .ok (.iload 14, 2) := by decide +kernel
theorem dX2_follow_191 : decode cX2_follow 191 = .ok (.iconst 1, 1) := by decide +kernel
theorem dX2_follow_192 : decode cX2_follow 192 = .ok (.if_icmp .ne 11, 3) := by decide +kernel
theorem dX2_follow_195 : decode cX2_follow 195 = .ok (.iload 8, 2) := by decide +kernel
theorem dX2_follow_197 : decode cX2_follow 197 = .ok (.ineg, 1) := by decide +kernel
theorem dX2_follow_198 : decode cX2_follow 198 = .ok (.istore 8, 2) := by decide +kernel
theorem dX2_follow_200 : decode cX2_follow 200 = .ok (.goto 30, 3) := by decide +kernel
theorem dX2_follow_203 : decode cX2_follow 203 = .ok (.iload 13, 2) := by decide +kernel
theorem dX2_follow_205 : decode cX2_follow 205 = .ok (.ifCond .eq 20, 3) := by decide +kernel
theorem dX2_follow_208 : decode cX2_follow 208 = .ok (.iload 13, 2) := by decide +kernel
theorem dX2_follow_210 : decode cX2_follow 210 = .ok (.iconst 2, 1) := by decide +kernel
theorem dX2_follow_211 : decode cX2_follow 211 = .ok (.aload_n 1, 1) := by decide +kernel
theorem dX2_follow_212 : decode cX2_follow 212 = .ok (.getfield 34, 3) := by decide +kernel
theorem dX2_follow_215 : decode cX2_follow 215 = .ok (.imul, 1) := by decide +kernel
theorem dX2_follow_216 : decode cX2_follow 216 = .ok (.if_icmp .eq 9, 3) := by decide +kernel
theorem dX2_follow_219 : decode cX2_follow 219 = .ok (.iload 14, 2) := by decide +kernel
theorem dX2_follow_221 : decode cX2_follow 221 = .ok (.iconst 2, 1) := by decide +kernel
theorem dX2_follow_222 : decode cX2_follow 222 = .ok (.if_icmp .ne 8, 3) := by decide +kernel
theorem dX2_follow_225 : decode cX2_follow 225 = .ok (.iload 9, 2) := by decide +kernel
theorem dX2_follow_227 : decode cX2_follow 227 = .ok (.ineg, 1) := by decide +kernel
theorem dX2_follow_228 : decode cX2_follow 228 = .ok (.istore 9, 2) := by decide +kernel
theorem dX2_follow_230 : decode cX2_follow 230 = .ok (.iload 8, 2) := by decide +kernel
theorem dX2_follow_232 : decode cX2_follow 232 = .ok (.ifCond .le 8, 3) := by decide +kernel
theorem dX2_follow_235 : decode cX2_follow 235 = .ok (.iload 12, 2) := by decide +kernel
theorem dX2_follow_237 : decode cX2_follow 237 = .ok (.goto 7, 3) := by decide +kernel
theorem dX2_follow_240 : decode cX2_follow 240 = .ok (.iload 12, 2) := by decide +kernel
theorem dX2_follow_242 : decode cX2_follow 242 = .ok (.iconst 1, 1) := by decide +kernel
theorem dX2_follow_243 : decode cX2_follow 243 = .ok (.isub, 1) := by decide +kernel
theorem dX2_follow_244 : decode cX2_follow 244 = .ok (.istore 6, 2) := by decide +kernel
theorem dX2_follow_246 : decode cX2_follow 246 = .ok (.iload 9, 2) := by decide +kernel
theorem dX2_follow_248 : decode cX2_follow 248 = .ok (.ifCond .le 8, 3) := by decide +kernel
theorem dX2_follow_251 : decode cX2_follow 251 = .ok (.iload 13, 2) := by decide +kernel
theorem dX2_follow_253 : decode cX2_follow 253 = .ok (.goto 7, 3) := by decide +kernel
theorem dX2_follow_256 : decode cX2_follow 256 = .ok (.iload 13, 2) := by decide +kernel
theorem dX2_follow_258 : decode cX2_follow 258 = .ok (.iconst 1, 1) := by decide +kernel
theorem dX2_follow_259 : decode cX2_follow 259 = .ok (.isub, 1) := by decide +kernel
theorem dX2_follow_260 : decode cX2_follow 260 = .ok (.istore 7, 2) := by decide +kernel
theorem dX2_follow_262 : decode cX2_follow 262 = .ok (.iinc 10 1, 3) := by decide +kernel
theorem dX2_follow_265 : decode cX2_follow 265 = .ok (.goto (-221), 3) := by decide +kernel
theorem dX2_follow_268 : decode cX2_follow 268 = .ok (.aload_n 0, 1) := by decide +kernel
theorem dX2_follow_269 : decode cX2_follow 269 = .ok (.getfield 30, 3) := by decide +kernel
theorem dX2_follow_272 : decode cX2_follow 272 = .ok (.sipush 256, 3) := by decide +kernel
theorem dX2_follow_275 : decode cX2_follow 275 = .ok (.if_icmp .ge 24, 3) := by decide +kernel
theorem dX2_follow_278 : decode cX2_follow 278 = .ok (.aload_n 0, 1) := by decide +kernel
theorem dX2_follow_279 : decode cX2_follow 279 = .ok (.dup, 1) := by decide +kernel
theorem dX2_follow_280 : decode cX2_follow 280 = .ok (.getfield 30, 3) := by decide +kernel
theorem dX2_follow_283 : decode cX2_follow 283 = .ok (.iconst 1, 1) := by decide +kernel
theorem dX2_follow_284 : decode cX2_follow 284 = .ok (.iadd, 1) := by decide +kernel
theorem dX2_follow_285 : decode cX2_follow 285 = .ok (.putfield 30, 3) := by decide +kernel
theorem dX2_follow_288 : decode cX2_follow 288 = .ok (.aload_n 0, 1) := by decide +kernel
theorem dX2_follow_289 : decode cX2_follow 289 = .ok (.getfield 21, 3) := by decide +kernel
theorem dX2_follow_292 : decode cX2_follow 292 = .ok (.aload_n 0, 1) := by decide +kernel
theorem dX2_follow_293 : decode cX2_follow 293 = .ok (.getfield 30, 3) := by decide +kernel
theorem dX2_follow_296 : decode cX2_follow 296 = .ok (.iload 5, 2) := by decide +kernel
theorem dX2_follow_298 : decode cX2_follow 298 = .ok (.iastore, 1) := by decide +kernel
theorem dX2_follow_299 : decode cX2_follow 299 = .ok (.return_, 1) := by decide +kernel
theorem dX2_isLine_0 : decode cX2_isLine 0 = .ok (.iload_n 1, 1) := by decide +kernel
theorem dX2_isLine_1 : decode cX2_isLine 1 = .ok (.ifCond .lt 15, 3) := by decide +kernel
theorem dX2_isLine_4 : decode cX2_isLine 4 = .ok (.iload_n 1, 1) := by decide +kernel
theorem dX2_isLine_5 : decode cX2_isLine 5 = .ok (.aload_n 0, 1) := by decide +kernel
theorem dX2_isLine_6 : decode cX2_isLine 6 = .ok (.getfield 30, 3) := by decide +kernel
theorem dX2_isLine_9 : decode cX2_isLine 9 = .ok (.if_icmp .ge 7, 3) := by decide +kernel
theorem dX2_isLine_12 : decode cX2_isLine 12 = .ok (.iconst 1, 1) := by decide +kernel
theorem dX2_isLine_13 : decode cX2_isLine 13 = .ok (.goto 4, 3) := by decide +kernel
theorem dX2_isLine_16 : decode cX2_isLine 16 = .ok (.iconst 0, 1) := by decide +kernel
theorem dX2_isLine_17 : decode cX2_isLine 17 = .ok (.ireturn, 1) := by decide +kernel
theorem dX2_lineThrough_0 : decode cX2_lineThrough 0 = .ok (.iload_n 1, 1) := by decide +kernel
theorem dX2_lineThrough_1 : decode cX2_lineThrough 1 = .ok (.ifCond .lt 19, 3) := by decide +kernel
theorem dX2_lineThrough_4 : decode cX2_lineThrough 4 = .ok (.iload_n 1, 1) := by decide +kernel
theorem dX2_lineThrough_5 : decode cX2_lineThrough 5 = .ok (.sipush 256, 3) := by decide +kernel
theorem dX2_lineThrough_8 : decode cX2_lineThrough 8 = .ok (.if_icmp .ge 12, 3) := by decide +kernel
theorem dX2_lineThrough_11 : decode cX2_lineThrough 11 = .ok (.aload_n 0, 1) := by decide +kernel
theorem dX2_lineThrough_12 : decode cX2_lineThrough 12 = .ok (.getfield 9, 3) := by decide +kernel
theorem dX2_lineThrough_15 : decode cX2_lineThrough 15 = .ok (.iload_n 1, 1) := by decide +kernel
theorem dX2_lineThrough_16 : decode cX2_lineThrough 16 = .ok (.iaload, 1) := by decide +kernel
theorem dX2_lineThrough_17 : decode cX2_lineThrough 17 = .ok (.goto 4, 3) := by decide +kernel
theorem dX2_lineThrough_20 : decode cX2_lineThrough 20 = .ok (.iconst (-1), 1) := by decide +kernel
theorem dX2_lineThrough_21 : decode cX2_lineThrough 21 = .ok (.ireturn, 1) := by decide +kernel
theorem dX2_placeInWalk_0 : decode cX2_placeInWalk 0 = .ok (.iload_n 1, 1) := by decide +kernel
theorem dX2_placeInWalk_1 : decode cX2_placeInWalk 1 = .ok (.ifCond .lt 19, 3) := by decide +kernel
theorem dX2_placeInWalk_4 : decode cX2_placeInWalk 4 = .ok (.iload_n 1, 1) := by decide +kernel
theorem dX2_placeInWalk_5 : decode cX2_placeInWalk 5 = .ok (.sipush 256, 3) := by decide +kernel
theorem dX2_placeInWalk_8 : decode cX2_placeInWalk 8 = .ok (.if_icmp .ge 12, 3) := by decide +kernel
theorem dX2_placeInWalk_11 : decode cX2_placeInWalk 11 = .ok (.aload_n 0, 1) := by decide +kernel
theorem dX2_placeInWalk_12 : decode cX2_placeInWalk 12 = .ok (.getfield 15, 3) := by decide +kernel
theorem dX2_placeInWalk_15 : decode cX2_placeInWalk 15 = .ok (.iload_n 1, 1) := by decide +kernel
theorem dX2_placeInWalk_16 : decode cX2_placeInWalk 16 = .ok (.iaload, 1) := by decide +kernel
theorem dX2_placeInWalk_17 : decode cX2_placeInWalk 17 = .ok (.goto 4, 3) := by decide +kernel
theorem dX2_placeInWalk_20 : decode cX2_placeInWalk 20 = .ok (.iconst 0, 1) := by decide +kernel
theorem dX2_placeInWalk_21 : decode cX2_placeInWalk 21 = .ok (.ireturn, 1) := by decide +kernel
theorem dX2_lengthOf_0 : decode cX2_lengthOf 0 = .ok (.aload_n 0, 1) := by decide +kernel
theorem dX2_lengthOf_1 : decode cX2_lengthOf 1 = .ok (.iload_n 1, 1) := by decide +kernel
theorem dX2_lengthOf_2 : decode cX2_lengthOf 2 = .ok (.invokevirtual 58, 3) := by decide +kernel
theorem dX2_lengthOf_5 : decode cX2_lengthOf 5 = .ok (.ifCond .eq 21, 3) := by decide +kernel
theorem dX2_lengthOf_8 : decode cX2_lengthOf 8 = .ok (.aload_n 0, 1) := by decide +kernel
theorem dX2_lengthOf_9 : decode cX2_lengthOf 9 = .ok (.getfield 21, 3) := by decide +kernel
theorem dX2_lengthOf_12 : decode cX2_lengthOf 12 = .ok (.iload_n 1, 1) := by decide +kernel
theorem dX2_lengthOf_13 : decode cX2_lengthOf 13 = .ok (.iconst 1, 1) := by decide +kernel
theorem dX2_lengthOf_14 : decode cX2_lengthOf 14 = .ok (.iadd, 1) := by decide +kernel
theorem dX2_lengthOf_15 : decode cX2_lengthOf 15 = .ok (.iaload, 1) := by decide +kernel
theorem dX2_lengthOf_16 : decode cX2_lengthOf 16 = .ok (.aload_n 0, 1) := by decide +kernel
theorem dX2_lengthOf_17 : decode cX2_lengthOf 17 = .ok (.getfield 21, 3) := by decide +kernel
theorem dX2_lengthOf_20 : decode cX2_lengthOf 20 = .ok (.iload_n 1, 1) := by decide +kernel
theorem dX2_lengthOf_21 : decode cX2_lengthOf 21 = .ok (.iaload, 1) := by decide +kernel
theorem dX2_lengthOf_22 : decode cX2_lengthOf 22 = .ok (.isub, 1) := by decide +kernel
theorem dX2_lengthOf_23 : decode cX2_lengthOf 23 = .ok (.goto 4, 3) := by decide +kernel
theorem dX2_lengthOf_26 : decode cX2_lengthOf 26 = .ok (.iconst 0, 1) := by decide +kernel
theorem dX2_lengthOf_27 : decode cX2_lengthOf 27 = .ok (.ireturn, 1) := by decide +kernel
theorem dX2_squareOf_0 : decode cX2_squareOf 0 = .ok (.iload_n 2, 1) := by decide +kernel
theorem dX2_squareOf_1 : decode cX2_squareOf 1 = .ok (.ifCond .lt 28, 3) := by decide +kernel
theorem dX2_squareOf_4 : decode cX2_squareOf 4 = .ok (.iload_n 2, 1) := by decide +kernel
theorem dX2_squareOf_5 : decode cX2_squareOf 5 = .ok (.aload_n 0, 1) := by decide +kernel
theorem dX2_squareOf_6 : decode cX2_squareOf 6 = .ok (.iload_n 1, 1) := by decide +kernel
theorem dX2_squareOf_7 : decode cX2_squareOf 7 = .ok (.invokevirtual 61, 3) := by decide +kernel
theorem dX2_squareOf_10 : decode cX2_squareOf 10 = .ok (.if_icmp .ge 19, 3) := by decide +kernel
theorem dX2_squareOf_13 : decode cX2_squareOf 13 = .ok (.aload_n 0, 1) := by decide +kernel
theorem dX2_squareOf_14 : decode cX2_squareOf 14 = .ok (.getfield 18, 3) := by decide +kernel
theorem dX2_squareOf_17 : decode cX2_squareOf 17 = .ok (.aload_n 0, 1) := by decide +kernel
theorem dX2_squareOf_18 : decode cX2_squareOf 18 = .ok (.getfield 21, 3) := by decide +kernel
theorem dX2_squareOf_21 : decode cX2_squareOf 21 = .ok (.iload_n 1, 1) := by decide +kernel
theorem dX2_squareOf_22 : decode cX2_squareOf 22 = .ok (.iaload, 1) := by decide +kernel
theorem dX2_squareOf_23 : decode cX2_squareOf 23 = .ok (.iload_n 2, 1) := by decide +kernel
theorem dX2_squareOf_24 : decode cX2_squareOf 24 = .ok (.iadd, 1) := by decide +kernel
theorem dX2_squareOf_25 : decode cX2_squareOf 25 = .ok (.iaload, 1) := by decide +kernel
theorem dX2_squareOf_26 : decode cX2_squareOf 26 = .ok (.goto 4, 3) := by decide +kernel
theorem dX2_squareOf_29 : decode cX2_squareOf 29 = .ok (.iconst (-1), 1) := by decide +kernel
theorem dX2_squareOf_30 : decode cX2_squareOf 30 = .ok (.ireturn, 1) := by decide +kernel
theorem dX3_init_0 : decode cX3_init 0 = .ok (.aload_n 0, 1) := by decide +kernel
theorem dX3_init_1 : decode cX3_init 1 = .ok (.invokespecial 3, 3) := by decide +kernel
theorem dX3_init_4 : decode cX3_init 4 = .ok (.aload_n 0, 1) := by decide +kernel
theorem dX3_init_5 : decode cX3_init 5 = .ok (.iconst (-1), 1) := by decide +kernel
theorem dX3_init_6 : decode cX3_init 6 = .ok (.putfield 9, 3) := by decide +kernel
theorem dX3_init_9 : decode cX3_init 9 = .ok (.aload_n 0, 1) := by decide +kernel
theorem dX3_init_10 : decode cX3_init 10 = .ok (.sipush 200, 3) := by decide +kernel
theorem dX3_init_13 : decode cX3_init 13 = .ok (.newarray .int, 2) := by decide +kernel
theorem dX3_init_15 : decode cX3_init 15 = .ok (.putfield 15, 3) := by decide +kernel
theorem dX3_init_18 : decode cX3_init 18 = .ok (.return_, 1) := by decide +kernel
theorem dX3_add_0 : decode cX3_add 0 = .ok (.bipush 24, 2) := by decide +kernel
theorem dX3_add_2 : decode cX3_add 2 = .ok (.istore_n 2, 1) := by decide +kernel
theorem dX3_add_3 : decode cX3_add 3 = .ok (.iload_n 2, 1) := by decide +kernel
theorem dX3_add_4 : decode cX3_add 4 = .ok (.ifCond .lt 52, 3) := by decide +kernel
theorem dX3_add_7 : decode cX3_add 7 = .ok (.aload_n 0, 1) := by decide +kernel
theorem dX3_add_8 : decode cX3_add 8 = .ok (.getfield 19, 3) := by decide +kernel
theorem dX3_add_11 : decode cX3_add 11 = .ok (.ifCond .lt 39, 3) := by decide +kernel
theorem dX3_add_14 : decode cX3_add 14 = .ok (.aload_n 0, 1) := by decide +kernel
theorem dX3_add_15 : decode cX3_add 15 = .ok (.getfield 19, 3) := by decide +kernel
theorem dX3_add_18 : decode cX3_add 18 = .ok (.sipush 200, 3) := by decide +kernel
theorem dX3_add_21 : decode cX3_add 21 = .ok (.if_icmp .ge 29, 3) := by decide +kernel
theorem dX3_add_24 : decode cX3_add 24 = .ok (.aload_n 0, 1) := by decide +kernel
theorem dX3_add_25 : decode cX3_add 25 = .ok (.getfield 15, 3) := by decide +kernel
theorem dX3_add_28 : decode cX3_add 28 = .ok (.aload_n 0, 1) := by decide +kernel
theorem dX3_add_29 : decode cX3_add 29 = .ok (.getfield 19, 3) := by decide +kernel
theorem dX3_add_32 : decode cX3_add 32 = .ok (.iload_n 1, 1) := by decide +kernel
theorem dX3_add_33 : decode cX3_add 33 = .ok (.iload_n 2, 1) := by decide +kernel
theorem dX3_add_34 : decode cX3_add 34 = .ok (.iushr, 1) := by decide +kernel
theorem dX3_add_35 : decode cX3_add 35 = .ok (.sipush 255, 3) := by decide +kernel
theorem dX3_add_38 : decode cX3_add 38 = .ok (.iand, 1) := by decide +kernel
theorem dX3_add_39 : decode cX3_add 39 = .ok (.iastore, 1) := by decide +kernel
theorem dX3_add_40 : decode cX3_add 40 = .ok (.aload_n 0, 1) := by decide +kernel
theorem dX3_add_41 : decode cX3_add 41 = .ok (.dup, 1) := by decide +kernel
theorem dX3_add_42 : decode cX3_add 42 = .ok (.getfield 19, 3) := by decide +kernel
theorem dX3_add_45 : decode cX3_add 45 = .ok (.iconst 1, 1) := by decide +kernel
theorem dX3_add_46 : decode cX3_add 46 = .ok (.iadd, 1) := by decide +kernel
theorem dX3_add_47 : decode cX3_add 47 = .ok (.putfield 19, 3) := by decide +kernel
theorem dX3_add_50 : decode cX3_add 50 = .ok (.iinc 2 (-8), 3) := by decide +kernel
theorem dX3_add_53 : decode cX3_add 53 = .ok (.goto (-50), 3) := by decide +kernel
theorem dX3_add_56 : decode cX3_add 56 = .ok (.return_, 1) := by decide +kernel
theorem dX3_byteAt_0 : decode cX3_byteAt 0 = .ok (.iload_n 1, 1) := by decide +kernel
theorem dX3_byteAt_1 : decode cX3_byteAt 1 = .ok (.ifCond .lt 27, 3) := by decide +kernel
theorem dX3_byteAt_4 : decode cX3_byteAt 4 = .ok (.iload_n 1, 1) := by decide +kernel
theorem dX3_byteAt_5 : decode cX3_byteAt 5 = .ok (.aload_n 0, 1) := by decide +kernel
theorem dX3_byteAt_6 : decode cX3_byteAt 6 = .ok (.getfield 19, 3) := by decide +kernel
theorem dX3_byteAt_9 : decode cX3_byteAt 9 = .ok (.if_icmp .ge 19, 3) := by decide +kernel
theorem dX3_byteAt_12 : decode cX3_byteAt 12 = .ok (.iload_n 1, 1) := by decide +kernel
theorem dX3_byteAt_13 : decode cX3_byteAt 13 = .ok (.sipush 200, 3) := by decide +kernel
theorem dX3_byteAt_16 : decode cX3_byteAt 16 = .ok (.if_icmp .ge 12, 3) := by decide +kernel
theorem dX3_byteAt_19 : decode cX3_byteAt 19 = .ok (.aload_n 0, 1) := by decide +kernel
theorem dX3_byteAt_20 : decode cX3_byteAt 20 = .ok (.getfield 15, 3) := by decide +kernel
theorem dX3_byteAt_23 : decode cX3_byteAt 23 = .ok (.iload_n 1, 1) := by decide +kernel
theorem dX3_byteAt_24 : decode cX3_byteAt 24 = .ok (.iaload, 1) := by decide +kernel
theorem dX3_byteAt_25 : decode cX3_byteAt 25 = .ok (.goto 4, 3) := by decide +kernel
theorem dX3_byteAt_28 : decode cX3_byteAt 28 = .ok (.iconst (-1), 1) := by decide +kernel
theorem dX3_byteAt_29 : decode cX3_byteAt 29 = .ok (.ireturn, 1) := by decide +kernel
theorem dX3_beginReading_0 : decode cX3_beginReading 0 = .ok (.aload_n 0, 1) := by decide +kernel
theorem dX3_beginReading_1 : decode cX3_beginReading 1 = .ok (.iconst 1, 1) := by decide +kernel
theorem dX3_beginReading_2 : decode cX3_beginReading 2 = .ok (.putfield 22, 3) := by decide +kernel
theorem dX3_beginReading_5 : decode cX3_beginReading 5 = .ok (.aload_n 0, 1) := by decide +kernel
theorem dX3_beginReading_6 : decode cX3_beginReading 6 = .ok (.iconst 0, 1) := by decide +kernel
theorem dX3_beginReading_7 : decode cX3_beginReading 7 = .ok (.putfield 26, 3) := by decide +kernel
theorem dX3_beginReading_10 : decode cX3_beginReading 10 = .ok (.aload_n 0, 1) := by decide +kernel
theorem dX3_beginReading_11 : decode cX3_beginReading 11 = .ok (.iconst (-1), 1) := by decide +kernel
theorem dX3_beginReading_12 : decode cX3_beginReading 12 = .ok (.putfield 9, 3) := by decide +kernel
theorem dX3_beginReading_15 : decode cX3_beginReading 15 = .ok (.return_, 1) := by decide +kernel
theorem dX3_fail_0 : decode cX3_fail 0 = .ok (.aload_n 0, 1) := by decide +kernel
theorem dX3_fail_1 : decode cX3_fail 1 = .ok (.iload_n 1, 1) := by decide +kernel
theorem dX3_fail_2 : decode cX3_fail 2 = .ok (.putfield 26, 3) := by decide +kernel
theorem dX3_fail_5 : decode cX3_fail 5 = .ok (.aload_n 0, 1) := by decide +kernel
theorem dX3_fail_6 : decode cX3_fail 6 = .ok (.iload_n 2, 1) := by decide +kernel
theorem dX3_fail_7 : decode cX3_fail 7 = .ok (.putfield 9, 3) := by decide +kernel
theorem dX3_fail_10 : decode cX3_fail 10 = .ok (.iconst 0, 1) := by decide +kernel
theorem dX3_fail_11 : decode cX3_fail 11 = .ok (.ireturn, 1) := by decide +kernel
theorem dX4_init_0 : decode cX4_init 0 = .ok (.aload_n 0, 1) := by decide +kernel
theorem dX4_init_1 : decode cX4_init 1 = .ok (.invokespecial 3, 3) := by decide +kernel
theorem dX4_init_4 : decode cX4_init 4 = .ok (.aload_n 0, 1) := by decide +kernel
theorem dX4_init_5 : decode cX4_init 5 = .ok (.aload_n 1, 1) := by decide +kernel
theorem dX4_init_6 : decode cX4_init 6 = .ok (.putfield 9, 3) := by decide +kernel
theorem dX4_init_9 : decode cX4_init 9 = .ok (.aload_n 0, 1) := by decide +kernel
theorem dX4_init_10 : decode cX4_init 10 = .ok (.aload_n 2, 1) := by decide +kernel
theorem dX4_init_11 : decode cX4_init 11 = .ok (.putfield 15, 3) := by decide +kernel
theorem dX4_init_14 : decode cX4_init 14 = .ok (.aload_n 0, 1) := by decide +kernel
theorem dX4_init_15 : decode cX4_init 15 = .ok (.new 19, 3) := by decide +kernel
theorem dX4_init_18 : decode cX4_init 18 = .ok (.dup, 1) := by decide +kernel
theorem dX4_init_19 : decode cX4_init 19 = .ok (.aload_n 1, 1) := by decide +kernel
theorem dX4_init_20 : decode cX4_init 20 = .ok (.invokespecial 21, 3) := by decide +kernel
theorem dX4_init_23 : decode cX4_init 23 = .ok (.putfield 24, 3) := by decide +kernel
theorem dX4_init_26 : decode cX4_init 26 = .ok (.aload_n 0, 1) := by decide +kernel
theorem dX4_init_27 : decode cX4_init 27 = .ok (.bipush 9, 2) := by decide +kernel
theorem dX4_init_29 : decode cX4_init 29 = .ok (.anewarray 28, 3) := by decide +kernel
theorem dX4_init_32 : decode cX4_init 32 = .ok (.putfield 30, 3) := by decide +kernel
theorem dX4_init_35 : decode cX4_init 35 = .ok (.iconst 0, 1) := by decide +kernel
theorem dX4_init_36 : decode cX4_init 36 = .ok (.istore_n 3, 1) := by decide +kernel
theorem dX4_init_37 : decode cX4_init 37 = .ok (.iload_n 3, 1) := by decide +kernel
theorem dX4_init_38 : decode cX4_init 38 = .ok (.aload_n 0, 1) := by decide +kernel
theorem dX4_init_39 : decode cX4_init 39 = .ok (.getfield 30, 3) := by decide +kernel
theorem dX4_init_42 : decode cX4_init 42 = .ok (.arraylength, 1) := by decide +kernel
theorem dX4_init_43 : decode cX4_init 43 = .ok (.if_icmp .ge 22, 3) := by decide +kernel
theorem dX4_init_46 : decode cX4_init 46 = .ok (.aload_n 0, 1) := by decide +kernel
theorem dX4_init_47 : decode cX4_init 47 = .ok (.getfield 30, 3) := by decide +kernel
theorem dX4_init_50 : decode cX4_init 50 = .ok (.iload_n 3, 1) := by decide +kernel
theorem dX4_init_51 : decode cX4_init 51 = .ok (.new 28, 3) := by decide +kernel
theorem dX4_init_54 : decode cX4_init 54 = .ok (.dup, 1) := by decide +kernel
theorem dX4_init_55 : decode cX4_init 55 = .ok (.invokespecial 33, 3) := by decide +kernel
theorem dX4_init_58 : decode cX4_init 58 = .ok (.aastore, 1) := by decide +kernel
theorem dX4_init_59 : decode cX4_init 59 = .ok (.iinc 3 1, 3) := by decide +kernel
theorem dX4_init_62 : decode cX4_init 62 = .ok (.goto (-25), 3) := by decide +kernel
theorem dX4_init_65 : decode cX4_init 65 = .ok (.aload_n 0, 1) := by decide +kernel
theorem dX4_init_66 : decode cX4_init 66 = .ok (.new 28, 3) := by decide +kernel
theorem dX4_init_69 : decode cX4_init 69 = .ok (.dup, 1) := by decide +kernel
theorem dX4_init_70 : decode cX4_init 70 = .ok (.invokespecial 33, 3) := by decide +kernel
theorem dX4_init_73 : decode cX4_init 73 = .ok (.putfield 34, 3) := by decide +kernel
theorem dX4_init_76 : decode cX4_init 76 = .ok (.return_, 1) := by decide +kernel
theorem dX4_readInto_0 : decode cX4_readInto 0 = .ok (.aload_n 0, 1) := by decide +kernel
theorem dX4_readInto_1 : decode cX4_readInto 1 = .ok (.getfield 9, 3) := by decide +kernel
theorem dX4_readInto_4 : decode cX4_readInto 4 = .ok (.invokevirtual 38, 3) := by decide +kernel
theorem dX4_readInto_7 : decode cX4_readInto 7 = .ok (.aload_n 0, 1) := by decide +kernel
theorem dX4_readInto_8 : decode cX4_readInto 8 = .ok (.getfield 24, 3) := by decide +kernel
theorem dX4_readInto_11 : decode cX4_readInto 11 = .ok (.invokevirtual 43, 3) := by decide +kernel
theorem dX4_readInto_14 : decode cX4_readInto 14 = .ok (.aload_n 0, 1) := by decide +kernel
theorem dX4_readInto_15 : decode cX4_readInto 15 = .ok (.iconst 0, 1) := by decide +kernel
theorem dX4_readInto_16 : decode cX4_readInto 16 = .ok (.iconst 0, 1) := by decide +kernel
theorem dX4_readInto_17 : decode cX4_readInto 17 = .ok (.invokevirtual 46, 3) := by decide +kernel
theorem dX4_readInto_20 : decode cX4_readInto 20 = .ok (.ifCond .ne 5, 3) := by decide +kernel
theorem dX4_readInto_23 : decode cX4_readInto 23 = .ok (.iconst 0, 1) := by decide +kernel
theorem dX4_readInto_24 : decode cX4_readInto 24 = .ok (.ireturn, 1) := by decide +kernel
theorem dX4_readInto_25 : decode cX4_readInto 25 = .ok (.aload_n 0, 1) := by decide +kernel
theorem dX4_readInto_26 : decode cX4_readInto 26 = .ok (.getfield 24, 3) := by decide +kernel
theorem dX4_readInto_29 : decode cX4_readInto 29 = .ok (.invokevirtual 50, 3) := by decide +kernel
theorem dX4_readInto_32 : decode cX4_readInto 32 = .ok (.aload_n 0, 1) := by decide +kernel
theorem dX4_readInto_33 : decode cX4_readInto 33 = .ok (.getfield 24, 3) := by decide +kernel
theorem dX4_readInto_36 : decode cX4_readInto 36 = .ok (.getfield 53, 3) := by decide +kernel
theorem dX4_readInto_39 : decode cX4_readInto 39 = .ok (.ifCond .ne 19, 3) := by decide +kernel
theorem dX4_readInto_42 : decode cX4_readInto 42 = .ok (.aload_n 0, 1) := by decide +kernel
theorem dX4_readInto_43 : decode cX4_readInto 43 = .ok (.getfield 9, 3) := by decide +kernel
theorem dX4_readInto_46 : decode cX4_readInto 46 = .ok (.iconst 1, 1) := by decide +kernel
theorem dX4_readInto_47 : decode cX4_readInto 47 = .ok (.aload_n 0, 1) := by decide +kernel
theorem dX4_readInto_48 : decode cX4_readInto 48 = .ok (.getfield 24, 3) := by decide +kernel
theorem dX4_readInto_51 : decode cX4_readInto 51 = .ok (.getfield 57, 3) := by decide +kernel
theorem dX4_readInto_54 : decode cX4_readInto 54 = .ok (.invokevirtual 61, 3) := by decide +kernel
theorem dX4_readInto_57 : decode cX4_readInto 57 = .ok (.ireturn, 1) := by decide +kernel
theorem dX4_readInto_58 : decode cX4_readInto 58 = .ok (.aload_n 1, 1) := by decide +kernel
theorem dX4_readInto_59 : decode cX4_readInto 59 = .ok (.aload_n 0, 1) := by decide +kernel
theorem dX4_readInto_60 : decode cX4_readInto 60 = .ok (.getfield 30, 3) := by decide +kernel
theorem dX4_readInto_63 : decode cX4_readInto 63 = .ok (.iconst 0, 1) := by decide +kernel
theorem dX4_readInto_64 : decode cX4_readInto 64 = .ok (.aaload, 1) := by decide +kernel
theorem dX4_readInto_65 : decode cX4_readInto 65 = .ok (.invokevirtual 64, 3) := by decide +kernel
theorem dX4_readInto_68 : decode cX4_readInto 68 = .ok (.iconst 1, 1) := by decide +kernel
theorem dX4_readInto_69 : decode cX4_readInto 69 = .ok (.ireturn, 1) := by decide +kernel
theorem dX4_readOne_0 : decode cX4_readOne 0 = .ok (.aload_n 0, 1) := by decide +kernel
theorem dX4_readOne_1 : decode cX4_readOne 1 = .ok (.getfield 24, 3) := by decide +kernel
theorem dX4_readOne_4 : decode cX4_readOne 4 = .ok (.invokevirtual 50, 3) := by decide +kernel
theorem dX4_readOne_7 : decode cX4_readOne 7 = .ok (.aload_n 0, 1) := by decide +kernel
theorem dX4_readOne_8 : decode cX4_readOne 8 = .ok (.getfield 24, 3) := by decide +kernel
theorem dX4_readOne_11 : decode cX4_readOne 11 = .ok (.invokevirtual 68, 3) := by decide +kernel
theorem dX4_readOne_14 : decode cX4_readOne 14 = .ok (.istore_n 3, 1) := by decide +kernel
theorem dX4_readOne_15 : decode cX4_readOne 15 = .ok (.aload_n 0, 1) := by decide +kernel
theorem dX4_readOne_16 : decode cX4_readOne 16 = .ok (.getfield 24, 3) := by decide +kernel
theorem dX4_readOne_19 : decode cX4_readOne 19 = .ok (.getfield 57, 3) := by decide +kernel
theorem dX4_readOne_22 : decode cX4_readOne 22 = .ok (.istore 4, 2) := by decide +kernel
theorem dX4_readOne_24 : decode cX4_readOne 24 = .ok (.iload_n 2, 1) := by decide +kernel
theorem dX4_readOne_25 : decode cX4_readOne 25 = .ok (.ifCond .lt 16, 3) := by decide +kernel
theorem dX4_readOne_28 : decode cX4_readOne 28 = .ok (.iload_n 2, 1) := by decide +kernel
theorem dX4_readOne_29 : decode cX4_readOne 29 = .ok (.aload_n 0, 1) := by decide +kernel
theorem dX4_readOne_30 : decode cX4_readOne 30 = .ok (.getfield 30, 3) := by decide +kernel
theorem dX4_readOne_33 : decode cX4_readOne 33 = .ok (.arraylength, 1) := by decide +kernel
theorem dX4_readOne_34 : decode cX4_readOne 34 = .ok (.if_icmp .ge 7, 3) := by decide +kernel
theorem dX4_readOne_37 : decode cX4_readOne 37 = .ok (.iload_n 3, 1) := by decide +kernel
theorem dX4_readOne_38 : decode cX4_readOne 38 = .ok (.ifCond .ne 14, 3) := by decide +kernel
theorem dX4_readOne_41 : decode cX4_readOne 41 = .ok (.aload_n 0, 1) := by decide +kernel
theorem dX4_readOne_42 : decode cX4_readOne 42 = .ok (.getfield 9, 3) := by decide +kernel
theorem dX4_readOne_45 : decode cX4_readOne 45 = .ok (.iconst 1, 1) := by decide +kernel
theorem dX4_readOne_46 : decode cX4_readOne 46 = .ok (.iload 4, 2) := by decide +kernel
theorem dX4_readOne_48 : decode cX4_readOne 48 = .ok (.invokevirtual 61, 3) := by decide +kernel
theorem dX4_readOne_51 : decode cX4_readOne 51 = .ok (.ireturn, 1) := by decide +kernel
theorem dX4_readOne_52 : decode cX4_readOne 52 = .ok (.iload_n 3, 1) := by decide +kernel
theorem dX4_readOne_53 : decode cX4_readOne 53 = .ok (.iconst 1, 1) := by decide +kernel
theorem dX4_readOne_54 : decode cX4_readOne 54 = .ok (.if_icmp .ne 14, 3) := by decide +kernel
theorem dX4_readOne_57 : decode cX4_readOne 57 = .ok (.aload_n 0, 1) := by decide +kernel
theorem dX4_readOne_58 : decode cX4_readOne 58 = .ok (.aload_n 0, 1) := by decide +kernel
theorem dX4_readOne_59 : decode cX4_readOne 59 = .ok (.getfield 30, 3) := by decide +kernel
theorem dX4_readOne_62 : decode cX4_readOne 62 = .ok (.iload_n 2, 1) := by decide +kernel
theorem dX4_readOne_63 : decode cX4_readOne 63 = .ok (.aaload, 1) := by decide +kernel
theorem dX4_readOne_64 : decode cX4_readOne 64 = .ok (.invokevirtual 72, 3) := by decide +kernel
theorem dX4_readOne_67 : decode cX4_readOne 67 = .ok (.ireturn, 1) := by decide +kernel
theorem dX4_readOne_68 : decode cX4_readOne 68 = .ok (.iload_n 3, 1) := by decide +kernel
theorem dX4_readOne_69 : decode cX4_readOne 69 = .ok (.bipush 9, 2) := by decide +kernel
theorem dX4_readOne_71 : decode cX4_readOne 71 = .ok (.if_icmp .ne 14, 3) := by decide +kernel
theorem dX4_readOne_74 : decode cX4_readOne 74 = .ok (.aload_n 0, 1) := by decide +kernel
theorem dX4_readOne_75 : decode cX4_readOne 75 = .ok (.aload_n 0, 1) := by decide +kernel
theorem dX4_readOne_76 : decode cX4_readOne 76 = .ok (.getfield 30, 3) := by decide +kernel
theorem dX4_readOne_79 : decode cX4_readOne 79 = .ok (.iload_n 2, 1) := by decide +kernel
theorem dX4_readOne_80 : decode cX4_readOne 80 = .ok (.aaload, 1) := by decide +kernel
theorem dX4_readOne_81 : decode cX4_readOne 81 = .ok (.invokevirtual 76, 3) := by decide +kernel
theorem dX4_readOne_84 : decode cX4_readOne 84 = .ok (.ireturn, 1) := by decide +kernel
theorem dX4_readOne_85 : decode cX4_readOne 85 = .ok (.iload_n 1, 1) := by decide +kernel
theorem dX4_readOne_86 : decode cX4_readOne 86 = .ok (.bipush 8, 2) := by decide +kernel
theorem dX4_readOne_88 : decode cX4_readOne 88 = .ok (.if_icmp .lt 14, 3) := by decide +kernel
theorem dX4_readOne_91 : decode cX4_readOne 91 = .ok (.aload_n 0, 1) := by decide +kernel
theorem dX4_readOne_92 : decode cX4_readOne 92 = .ok (.getfield 9, 3) := by decide +kernel
theorem dX4_readOne_95 : decode cX4_readOne 95 = .ok (.iconst 3, 1) := by decide +kernel
theorem dX4_readOne_96 : decode cX4_readOne 96 = .ok (.iload 4, 2) := by decide +kernel
theorem dX4_readOne_98 : decode cX4_readOne 98 = .ok (.invokevirtual 61, 3) := by decide +kernel
theorem dX4_readOne_101 : decode cX4_readOne 101 = .ok (.ireturn, 1) := by decide +kernel
theorem dX4_readOne_102 : decode cX4_readOne 102 = .ok (.iload_n 3, 1) := by decide +kernel
theorem dX4_readOne_103 : decode cX4_readOne 103 = .ok (.tableswitch 73 2 8 #[41, 63, 63, 73, 73, 73, 52], 41) := by decide +kernel
theorem dX4_readOne_144 : decode cX4_readOne 144 = .ok (.aload_n 0, 1) := by decide +kernel
theorem dX4_readOne_145 : decode cX4_readOne 145 = .ok (.iload_n 1, 1) := by decide +kernel
theorem dX4_readOne_146 : decode cX4_readOne 146 = .ok (.iconst 1, 1) := by decide +kernel
theorem dX4_readOne_147 : decode cX4_readOne 147 = .ok (.iadd, 1) := by decide +kernel
theorem dX4_readOne_148 : decode cX4_readOne 148 = .ok (.iload_n 2, 1) := by decide +kernel
theorem dX4_readOne_149 : decode cX4_readOne 149 = .ok (.iload 4, 2) := by decide +kernel
theorem dX4_readOne_151 : decode cX4_readOne 151 = .ok (.invokevirtual 79, 3) := by decide +kernel
theorem dX4_readOne_154 : decode cX4_readOne 154 = .ok (.ireturn, 1) := by decide +kernel
theorem dX4_readOne_155 : decode cX4_readOne 155 = .ok (.aload_n 0, 1) := by decide +kernel
theorem dX4_readOne_156 : decode cX4_readOne 156 = .ok (.iload_n 1, 1) := by decide +kernel
theorem dX4_readOne_157 : decode cX4_readOne 157 = .ok (.iconst 1, 1) := by decide +kernel
theorem dX4_readOne_158 : decode cX4_readOne 158 = .ok (.iadd, 1) := by decide +kernel
theorem dX4_readOne_159 : decode cX4_readOne 159 = .ok (.iload_n 2, 1) := by decide +kernel
theorem dX4_readOne_160 : decode cX4_readOne 160 = .ok (.iload 4, 2) := by decide +kernel
theorem dX4_readOne_162 : decode cX4_readOne 162 = .ok (.invokevirtual 83, 3) := by decide +kernel
theorem dX4_readOne_165 : decode cX4_readOne 165 = .ok (.ireturn, 1) := by decide +kernel
theorem dX4_readOne_166 : decode cX4_readOne 166 = .ok (.aload_n 0, 1) := by decide +kernel
theorem dX4_readOne_167 : decode cX4_readOne 167 = .ok (.iload_n 1, 1) := by decide +kernel
theorem dX4_readOne_168 : decode cX4_readOne 168 = .ok (.iconst 1, 1) := by decide +kernel
theorem dX4_readOne_169 : decode cX4_readOne 169 = .ok (.iadd, 1) := by decide +kernel
theorem dX4_readOne_170 : decode cX4_readOne 170 = .ok (.iload_n 2, 1) := by decide +kernel
theorem dX4_readOne_171 : decode cX4_readOne 171 = .ok (.iload_n 3, 1) := by decide +kernel
theorem dX4_readOne_172 : decode cX4_readOne 172 = .ok (.invokevirtual 86, 3) := by decide +kernel
theorem dX4_readOne_175 : decode cX4_readOne 175 = .ok (.ireturn, 1) := by decide +kernel
theorem dX4_readOne_176 : decode cX4_readOne 176 = .ok (.aload_n 0, 1) := by decide +kernel
theorem dX4_readOne_177 : decode cX4_readOne 177 = .ok (.iload_n 1, 1) := by decide +kernel
theorem dX4_readOne_178 : decode cX4_readOne 178 = .ok (.iconst 1, 1) := by decide +kernel
theorem dX4_readOne_179 : decode cX4_readOne 179 = .ok (.iadd, 1) := by decide +kernel
theorem dX4_readOne_180 : decode cX4_readOne 180 = .ok (.iload_n 2, 1) := by decide +kernel
theorem dX4_readOne_181 : decode cX4_readOne 181 = .ok (.iload_n 3, 1) := by decide +kernel
theorem dX4_readOne_182 : decode cX4_readOne 182 = .ok (.iload 4, 2) := by decide +kernel
theorem dX4_readOne_184 : decode cX4_readOne 184 = .ok (.invokevirtual 89, 3) := by decide +kernel
theorem dX4_readOne_187 : decode cX4_readOne 187 = .ok (.ireturn, 1) := by decide +kernel
theorem dX4_readPlain_0 : decode cX4_readPlain 0 = .ok (.aload_n 0, 1) := by decide +kernel
theorem dX4_readPlain_1 : decode cX4_readPlain 1 = .ok (.iconst 1, 1) := by decide +kernel
theorem dX4_readPlain_2 : decode cX4_readPlain 2 = .ok (.bipush 8, 2) := by decide +kernel
theorem dX4_readPlain_4 : decode cX4_readPlain 4 = .ok (.invokevirtual 93, 3) := by decide +kernel
theorem dX4_readPlain_7 : decode cX4_readPlain 7 = .ok (.istore_n 2, 1) := by decide +kernel
theorem dX4_readPlain_8 : decode cX4_readPlain 8 = .ok (.iload_n 2, 1) := by decide +kernel
theorem dX4_readPlain_9 : decode cX4_readPlain 9 = .ok (.iconst (-1), 1) := by decide +kernel
theorem dX4_readPlain_10 : decode cX4_readPlain 10 = .ok (.if_icmp .ne 5, 3) := by decide +kernel
theorem dX4_readPlain_13 : decode cX4_readPlain 13 = .ok (.iconst 0, 1) := by decide +kernel
theorem dX4_readPlain_14 : decode cX4_readPlain 14 = .ok (.ireturn, 1) := by decide +kernel
theorem dX4_readPlain_15 : decode cX4_readPlain 15 = .ok (.aload_n 0, 1) := by decide +kernel
theorem dX4_readPlain_16 : decode cX4_readPlain 16 = .ok (.iconst 1, 1) := by decide +kernel
theorem dX4_readPlain_17 : decode cX4_readPlain 17 = .ok (.bipush 8, 2) := by decide +kernel
theorem dX4_readPlain_19 : decode cX4_readPlain 19 = .ok (.invokevirtual 93, 3) := by decide +kernel
theorem dX4_readPlain_22 : decode cX4_readPlain 22 = .ok (.istore_n 3, 1) := by decide +kernel
theorem dX4_readPlain_23 : decode cX4_readPlain 23 = .ok (.iload_n 3, 1) := by decide +kernel
theorem dX4_readPlain_24 : decode cX4_readPlain 24 = .ok (.iconst (-1), 1) := by decide +kernel
theorem dX4_readPlain_25 : decode cX4_readPlain 25 = .ok (.if_icmp .ne 5, 3) := by decide +kernel
theorem dX4_readPlain_28 : decode cX4_readPlain 28 = .ok (.iconst 0, 1) := by decide +kernel
theorem dX4_readPlain_29 : decode cX4_readPlain 29 = .ok (.ireturn, 1) := by decide +kernel
theorem dX4_readPlain_30 : decode cX4_readPlain 30 = .ok (.aload_n 1, 1) := by decide +kernel
theorem dX4_readPlain_31 : decode cX4_readPlain 31 = .ok (.iload_n 2, 1) := by decide +kernel
theorem dX4_readPlain_32 : decode cX4_readPlain 32 = .ok (.iload_n 3, 1) := by decide +kernel
theorem dX4_readPlain_33 : decode cX4_readPlain 33 = .ok (.invokevirtual 97, 3) := by decide +kernel
theorem dX4_readPlain_36 : decode cX4_readPlain 36 = .ok (.iconst 1, 1) := by decide +kernel
theorem dX4_readPlain_37 : decode cX4_readPlain 37 = .ok (.ireturn, 1) := by decide +kernel
theorem dX4_readKept_0 : decode cX4_readKept 0 = .ok (.aload_n 0, 1) := by decide +kernel
theorem dX4_readKept_1 : decode cX4_readKept 1 = .ok (.iconst 0, 1) := by decide +kernel
theorem dX4_readKept_2 : decode cX4_readKept 2 = .ok (.bipush 7, 2) := by decide +kernel
theorem dX4_readKept_4 : decode cX4_readKept 4 = .ok (.invokevirtual 93, 3) := by decide +kernel
theorem dX4_readKept_7 : decode cX4_readKept 7 = .ok (.istore_n 2, 1) := by decide +kernel
theorem dX4_readKept_8 : decode cX4_readKept 8 = .ok (.iload_n 2, 1) := by decide +kernel
theorem dX4_readKept_9 : decode cX4_readKept 9 = .ok (.ifCond .lt 12, 3) := by decide +kernel
theorem dX4_readKept_12 : decode cX4_readKept 12 = .ok (.iload_n 2, 1) := by decide +kernel
theorem dX4_readKept_13 : decode cX4_readKept 13 = .ok (.aload_n 0, 1) := by decide +kernel
theorem dX4_readKept_14 : decode cX4_readKept 14 = .ok (.getfield 15, 3) := by decide +kernel
theorem dX4_readKept_17 : decode cX4_readKept 17 = .ok (.arraylength, 1) := by decide +kernel
theorem dX4_readKept_18 : decode cX4_readKept 18 = .ok (.if_icmp .lt 5, 3) := by decide +kernel
theorem dX4_readKept_21 : decode cX4_readKept 21 = .ok (.iconst 0, 1) := by decide +kernel
theorem dX4_readKept_22 : decode cX4_readKept 22 = .ok (.ireturn, 1) := by decide +kernel
theorem dX4_readKept_23 : decode cX4_readKept 23 = .ok (.aload_n 0, 1) := by decide +kernel
theorem dX4_readKept_24 : decode cX4_readKept 24 = .ok (.getfield 15, 3) := by decide +kernel
theorem dX4_readKept_27 : decode cX4_readKept 27 = .ok (.iload_n 2, 1) := by decide +kernel
theorem dX4_readKept_28 : decode cX4_readKept 28 = .ok (.aaload, 1) := by decide +kernel
theorem dX4_readKept_29 : decode cX4_readKept 29 = .ok (.astore_n 3, 1) := by decide +kernel
theorem dX4_readKept_30 : decode cX4_readKept 30 = .ok (.aload_n 3, 1) := by decide +kernel
theorem dX4_readKept_31 : decode cX4_readKept 31 = .ok (.ifnonnull 19, 3) := by decide +kernel
theorem dX4_readKept_34 : decode cX4_readKept 34 = .ok (.aload_n 0, 1) := by decide +kernel
theorem dX4_readKept_35 : decode cX4_readKept 35 = .ok (.getfield 9, 3) := by decide +kernel
theorem dX4_readKept_38 : decode cX4_readKept 38 = .ok (.iconst 2, 1) := by decide +kernel
theorem dX4_readKept_39 : decode cX4_readKept 39 = .ok (.aload_n 0, 1) := by decide +kernel
theorem dX4_readKept_40 : decode cX4_readKept 40 = .ok (.getfield 24, 3) := by decide +kernel
theorem dX4_readKept_43 : decode cX4_readKept 43 = .ok (.getfield 57, 3) := by decide +kernel
theorem dX4_readKept_46 : decode cX4_readKept 46 = .ok (.invokevirtual 61, 3) := by decide +kernel
theorem dX4_readKept_49 : decode cX4_readKept 49 = .ok (.ireturn, 1) := by decide +kernel
theorem dX4_readKept_50 : decode cX4_readKept 50 = .ok (.aload_n 1, 1) := by decide +kernel
theorem dX4_readKept_51 : decode cX4_readKept 51 = .ok (.aload_n 3, 1) := by decide +kernel
theorem dX4_readKept_52 : decode cX4_readKept 52 = .ok (.invokevirtual 64, 3) := by decide +kernel
theorem dX4_readKept_55 : decode cX4_readKept 55 = .ok (.iconst 1, 1) := by decide +kernel
theorem dX4_readKept_56 : decode cX4_readKept 56 = .ok (.ireturn, 1) := by decide +kernel
theorem dX4_readSet_0 : decode cX4_readSet 0 = .ok (.aload_n 0, 1) := by decide +kernel
theorem dX4_readSet_1 : decode cX4_readSet 1 = .ok (.iconst 0, 1) := by decide +kernel
theorem dX4_readSet_2 : decode cX4_readSet 2 = .ok (.bipush 16, 2) := by decide +kernel
theorem dX4_readSet_4 : decode cX4_readSet 4 = .ok (.invokevirtual 93, 3) := by decide +kernel
theorem dX4_readSet_7 : decode cX4_readSet 7 = .ok (.istore 4, 2) := by decide +kernel
theorem dX4_readSet_9 : decode cX4_readSet 9 = .ok (.iload 4, 2) := by decide +kernel
theorem dX4_readSet_11 : decode cX4_readSet 11 = .ok (.iconst (-1), 1) := by decide +kernel
theorem dX4_readSet_12 : decode cX4_readSet 12 = .ok (.if_icmp .ne 5, 3) := by decide +kernel
theorem dX4_readSet_15 : decode cX4_readSet 15 = .ok (.iconst 0, 1) := by decide +kernel
theorem dX4_readSet_16 : decode cX4_readSet 16 = .ok (.ireturn, 1) := by decide +kernel
theorem dX4_readSet_17 : decode cX4_readSet 17 = .ok (.aload_n 0, 1) := by decide +kernel
theorem dX4_readSet_18 : decode cX4_readSet 18 = .ok (.iconst 0, 1) := by decide +kernel
theorem dX4_readSet_19 : decode cX4_readSet 19 = .ok (.bipush 16, 2) := by decide +kernel
theorem dX4_readSet_21 : decode cX4_readSet 21 = .ok (.invokevirtual 93, 3) := by decide +kernel
theorem dX4_readSet_24 : decode cX4_readSet 24 = .ok (.istore 5, 2) := by decide +kernel
theorem dX4_readSet_26 : decode cX4_readSet 26 = .ok (.iload 5, 2) := by decide +kernel
theorem dX4_readSet_28 : decode cX4_readSet 28 = .ok (.iconst (-1), 1) := by decide +kernel
theorem dX4_readSet_29 : decode cX4_readSet 29 = .ok (.if_icmp .ne 5, 3) := by decide +kernel
theorem dX4_readSet_32 : decode cX4_readSet 32 = .ok (.iconst 0, 1) := by decide +kernel
theorem dX4_readSet_33 : decode cX4_readSet 33 = .ok (.ireturn, 1) := by decide +kernel
theorem dX4_readSet_34 : decode cX4_readSet 34 = .ok (.aload_n 0, 1) := by decide +kernel
theorem dX4_readSet_35 : decode cX4_readSet 35 = .ok (.iconst 0, 1) := by decide +kernel
theorem dX4_readSet_36 : decode cX4_readSet 36 = .ok (.iconst 2, 1) := by decide +kernel
theorem dX4_readSet_37 : decode cX4_readSet 37 = .ok (.invokevirtual 93, 3) := by decide +kernel
theorem dX4_readSet_40 : decode cX4_readSet 40 = .ok (.istore 6, 2) := by decide +kernel
theorem dX4_readSet_42 : decode cX4_readSet 42 = .ok (.iload 6, 2) := by decide +kernel
theorem dX4_readSet_44 : decode cX4_readSet 44 = .ok (.iconst (-1), 1) := by decide +kernel
theorem dX4_readSet_45 : decode cX4_readSet 45 = .ok (.if_icmp .eq 12, 3) := by decide +kernel
theorem dX4_readSet_48 : decode cX4_readSet 48 = .ok (.aload_n 0, 1) := by decide +kernel
theorem dX4_readSet_49 : decode cX4_readSet 49 = .ok (.iload_n 1, 1) := by decide +kernel
theorem dX4_readSet_50 : decode cX4_readSet 50 = .ok (.iload_n 2, 1) := by decide +kernel
theorem dX4_readSet_51 : decode cX4_readSet 51 = .ok (.invokevirtual 46, 3) := by decide +kernel
theorem dX4_readSet_54 : decode cX4_readSet 54 = .ok (.ifCond .ne 5, 3) := by decide +kernel
theorem dX4_readSet_57 : decode cX4_readSet 57 = .ok (.iconst 0, 1) := by decide +kernel
theorem dX4_readSet_58 : decode cX4_readSet 58 = .ok (.ireturn, 1) := by decide +kernel
theorem dX4_readSet_59 : decode cX4_readSet 59 = .ok (.aload_n 0, 1) := by decide +kernel
theorem dX4_readSet_60 : decode cX4_readSet 60 = .ok (.getfield 30, 3) := by decide +kernel
theorem dX4_readSet_63 : decode cX4_readSet 63 = .ok (.iload_n 2, 1) := by decide +kernel
theorem dX4_readSet_64 : decode cX4_readSet 64 = .ok (.aaload, 1) := by decide +kernel
theorem dX4_readSet_65 : decode cX4_readSet 65 = .ok (.iload 4, 2) := by decide +kernel
theorem dX4_readSet_67 : decode cX4_readSet 67 = .ok (.iload 5, 2) := by decide +kernel
theorem dX4_readSet_69 : decode cX4_readSet 69 = .ok (.invokevirtual 101, 3) := by decide +kernel
theorem dX4_readSet_72 : decode cX4_readSet 72 = .ok (.ifCond .ne 13, 3) := by decide +kernel
theorem dX4_readSet_75 : decode cX4_readSet 75 = .ok (.aload_n 0, 1) := by decide +kernel
theorem dX4_readSet_76 : decode cX4_readSet 76 = .ok (.getfield 9, 3) := by decide +kernel
theorem dX4_readSet_79 : decode cX4_readSet 79 = .ok (.iconst 4, 1) := by decide +kernel
theorem dX4_readSet_80 : decode cX4_readSet 80 = .ok (.iload_n 3, 1) := by decide +kernel
theorem dX4_readSet_81 : decode cX4_readSet 81 = .ok (.invokevirtual 61, 3) := by decide +kernel
theorem dX4_readSet_84 : decode cX4_readSet 84 = .ok (.ireturn, 1) := by decide +kernel
theorem dX4_readSet_85 : decode cX4_readSet 85 = .ok (.aload_n 0, 1) := by decide +kernel
theorem dX4_readSet_86 : decode cX4_readSet 86 = .ok (.getfield 30, 3) := by decide +kernel
theorem dX4_readSet_89 : decode cX4_readSet 89 = .ok (.iload_n 2, 1) := by decide +kernel
theorem dX4_readSet_90 : decode cX4_readSet 90 = .ok (.aaload, 1) := by decide +kernel
theorem dX4_readSet_91 : decode cX4_readSet 91 = .ok (.iload 4, 2) := by decide +kernel
theorem dX4_readSet_93 : decode cX4_readSet 93 = .ok (.iload 5, 2) := by decide +kernel
theorem dX4_readSet_95 : decode cX4_readSet 95 = .ok (.iload 6, 2) := by decide +kernel
theorem dX4_readSet_97 : decode cX4_readSet 97 = .ok (.invokevirtual 104, 3) := by decide +kernel
theorem dX4_readSet_100 : decode cX4_readSet 100 = .ok (.iconst 1, 1) := by decide +kernel
theorem dX4_readSet_101 : decode cX4_readSet 101 = .ok (.ireturn, 1) := by decide +kernel
theorem dX4_readRow_0 : decode cX4_readRow 0 = .ok (.aload_n 0, 1) := by decide +kernel
theorem dX4_readRow_1 : decode cX4_readRow 1 = .ok (.iconst 1, 1) := by decide +kernel
theorem dX4_readRow_2 : decode cX4_readRow 2 = .ok (.bipush 8, 2) := by decide +kernel
theorem dX4_readRow_4 : decode cX4_readRow 4 = .ok (.invokevirtual 93, 3) := by decide +kernel
theorem dX4_readRow_7 : decode cX4_readRow 7 = .ok (.istore 4, 2) := by decide +kernel
theorem dX4_readRow_9 : decode cX4_readRow 9 = .ok (.iload 4, 2) := by decide +kernel
theorem dX4_readRow_11 : decode cX4_readRow 11 = .ok (.iconst (-1), 1) := by decide +kernel
theorem dX4_readRow_12 : decode cX4_readRow 12 = .ok (.if_icmp .eq 12, 3) := by decide +kernel
theorem dX4_readRow_15 : decode cX4_readRow 15 = .ok (.aload_n 0, 1) := by decide +kernel
theorem dX4_readRow_16 : decode cX4_readRow 16 = .ok (.iload_n 1, 1) := by decide +kernel
theorem dX4_readRow_17 : decode cX4_readRow 17 = .ok (.iload_n 2, 1) := by decide +kernel
theorem dX4_readRow_18 : decode cX4_readRow 18 = .ok (.invokevirtual 46, 3) := by decide +kernel
theorem dX4_readRow_21 : decode cX4_readRow 21 = .ok (.ifCond .ne 5, 3) := by decide +kernel
theorem dX4_readRow_24 : decode cX4_readRow 24 = .ok (.iconst 0, 1) := by decide +kernel
theorem dX4_readRow_25 : decode cX4_readRow 25 = .ok (.ireturn, 1) := by decide +kernel
theorem dX4_readRow_26 : decode cX4_readRow 26 = .ok (.aload_n 0, 1) := by decide +kernel
theorem dX4_readRow_27 : decode cX4_readRow 27 = .ok (.getfield 34, 3) := by decide +kernel
theorem dX4_readRow_30 : decode cX4_readRow 30 = .ok (.aload_n 0, 1) := by decide +kernel
theorem dX4_readRow_31 : decode cX4_readRow 31 = .ok (.getfield 30, 3) := by decide +kernel
theorem dX4_readRow_34 : decode cX4_readRow 34 = .ok (.iload_n 2, 1) := by decide +kernel
theorem dX4_readRow_35 : decode cX4_readRow 35 = .ok (.aaload, 1) := by decide +kernel
theorem dX4_readRow_36 : decode cX4_readRow 36 = .ok (.invokevirtual 64, 3) := by decide +kernel
theorem dX4_readRow_39 : decode cX4_readRow 39 = .ok (.iconst 1, 1) := by decide +kernel
theorem dX4_readRow_40 : decode cX4_readRow 40 = .ok (.istore 5, 2) := by decide +kernel
theorem dX4_readRow_42 : decode cX4_readRow 42 = .ok (.iload 5, 2) := by decide +kernel
theorem dX4_readRow_44 : decode cX4_readRow 44 = .ok (.iload 4, 2) := by decide +kernel
theorem dX4_readRow_46 : decode cX4_readRow 46 = .ok (.if_icmp .ge 35, 3) := by decide +kernel
theorem dX4_readRow_49 : decode cX4_readRow 49 = .ok (.aload_n 0, 1) := by decide +kernel
theorem dX4_readRow_50 : decode cX4_readRow 50 = .ok (.getfield 30, 3) := by decide +kernel
theorem dX4_readRow_53 : decode cX4_readRow 53 = .ok (.iload_n 2, 1) := by decide +kernel
theorem dX4_readRow_54 : decode cX4_readRow 54 = .ok (.aaload, 1) := by decide +kernel
theorem dX4_readRow_55 : decode cX4_readRow 55 = .ok (.aload_n 0, 1) := by decide +kernel
theorem dX4_readRow_56 : decode cX4_readRow 56 = .ok (.getfield 34, 3) := by decide +kernel
theorem dX4_readRow_59 : decode cX4_readRow 59 = .ok (.invokevirtual 108, 3) := by decide +kernel
theorem dX4_readRow_62 : decode cX4_readRow 62 = .ok (.ifCond .ne 13, 3) := by decide +kernel
theorem dX4_readRow_65 : decode cX4_readRow 65 = .ok (.aload_n 0, 1) := by decide +kernel
theorem dX4_readRow_66 : decode cX4_readRow 66 = .ok (.getfield 9, 3) := by decide +kernel
theorem dX4_readRow_69 : decode cX4_readRow 69 = .ok (.iconst 4, 1) := by decide +kernel
theorem dX4_readRow_70 : decode cX4_readRow 70 = .ok (.iload_n 3, 1) := by decide +kernel
theorem dX4_readRow_71 : decode cX4_readRow 71 = .ok (.invokevirtual 61, 3) := by decide +kernel
theorem dX4_readRow_74 : decode cX4_readRow 74 = .ok (.ireturn, 1) := by decide +kernel
theorem dX4_readRow_75 : decode cX4_readRow 75 = .ok (.iinc 5 1, 3) := by decide +kernel
theorem dX4_readRow_78 : decode cX4_readRow 78 = .ok (.goto (-36), 3) := by decide +kernel
theorem dX4_readRow_81 : decode cX4_readRow 81 = .ok (.iconst 1, 1) := by decide +kernel
theorem dX4_readRow_82 : decode cX4_readRow 82 = .ok (.ireturn, 1) := by decide +kernel
theorem dX4_readTurned_0 : decode cX4_readTurned 0 = .ok (.aload_n 0, 1) := by decide +kernel
theorem dX4_readTurned_1 : decode cX4_readTurned 1 = .ok (.iload_n 1, 1) := by decide +kernel
theorem dX4_readTurned_2 : decode cX4_readTurned 2 = .ok (.iload_n 2, 1) := by decide +kernel
theorem dX4_readTurned_3 : decode cX4_readTurned 3 = .ok (.invokevirtual 46, 3) := by decide +kernel
theorem dX4_readTurned_6 : decode cX4_readTurned 6 = .ok (.ifCond .ne 5, 3) := by decide +kernel
theorem dX4_readTurned_9 : decode cX4_readTurned 9 = .ok (.iconst 0, 1) := by decide +kernel
theorem dX4_readTurned_10 : decode cX4_readTurned 10 = .ok (.ireturn, 1) := by decide +kernel
theorem dX4_readTurned_11 : decode cX4_readTurned 11 = .ok (.aload_n 0, 1) := by decide +kernel
theorem dX4_readTurned_12 : decode cX4_readTurned 12 = .ok (.getfield 34, 3) := by decide +kernel
theorem dX4_readTurned_15 : decode cX4_readTurned 15 = .ok (.aload_n 0, 1) := by decide +kernel
theorem dX4_readTurned_16 : decode cX4_readTurned 16 = .ok (.getfield 30, 3) := by decide +kernel
theorem dX4_readTurned_19 : decode cX4_readTurned 19 = .ok (.iload_n 2, 1) := by decide +kernel
theorem dX4_readTurned_20 : decode cX4_readTurned 20 = .ok (.aaload, 1) := by decide +kernel
theorem dX4_readTurned_21 : decode cX4_readTurned 21 = .ok (.iload_n 3, 1) := by decide +kernel
theorem dX4_readTurned_22 : decode cX4_readTurned 22 = .ok (.iconst 3, 1) := by decide +kernel
theorem dX4_readTurned_23 : decode cX4_readTurned 23 = .ok (.if_icmp .ne 7, 3) := by decide +kernel
theorem dX4_readTurned_26 : decode cX4_readTurned 26 = .ok (.iconst 1, 1) := by decide +kernel
theorem dX4_readTurned_27 : decode cX4_readTurned 27 = .ok (.goto 4, 3) := by decide +kernel
theorem dX4_readTurned_30 : decode cX4_readTurned 30 = .ok (.iconst 0, 1) := by decide +kernel
theorem dX4_readTurned_31 : decode cX4_readTurned 31 = .ok (.iload_n 3, 1) := by decide +kernel
theorem dX4_readTurned_32 : decode cX4_readTurned 32 = .ok (.iconst 4, 1) := by decide +kernel
theorem dX4_readTurned_33 : decode cX4_readTurned 33 = .ok (.if_icmp .ne 7, 3) := by decide +kernel
theorem dX4_readTurned_36 : decode cX4_readTurned 36 = .ok (.iconst 1, 1) := by decide +kernel
theorem dX4_readTurned_37 : decode cX4_readTurned 37 = .ok (.goto 4, 3) := by decide +kernel
theorem dX4_readTurned_40 : decode cX4_readTurned 40 = .ok (.iconst 0, 1) := by decide +kernel
theorem dX4_readTurned_41 : decode cX4_readTurned 41 = .ok (.invokevirtual 111, 3) := by decide +kernel
theorem dX4_readTurned_44 : decode cX4_readTurned 44 = .ok (.aload_n 0, 1) := by decide +kernel
theorem dX4_readTurned_45 : decode cX4_readTurned 45 = .ok (.getfield 30, 3) := by decide +kernel
theorem dX4_readTurned_48 : decode cX4_readTurned 48 = .ok (.iload_n 2, 1) := by decide +kernel
theorem dX4_readTurned_49 : decode cX4_readTurned 49 = .ok (.aaload, 1) := by decide +kernel
theorem dX4_readTurned_50 : decode cX4_readTurned 50 = .ok (.aload_n 0, 1) := by decide +kernel
theorem dX4_readTurned_51 : decode cX4_readTurned 51 = .ok (.getfield 34, 3) := by decide +kernel
theorem dX4_readTurned_54 : decode cX4_readTurned 54 = .ok (.invokevirtual 64, 3) := by decide +kernel
theorem dX4_readTurned_57 : decode cX4_readTurned 57 = .ok (.iconst 1, 1) := by decide +kernel
theorem dX4_readTurned_58 : decode cX4_readTurned 58 = .ok (.ireturn, 1) := by decide +kernel
theorem dX4_readPair_0 : decode cX4_readPair 0 = .ok (.iload_n 2, 1) := by decide +kernel
theorem dX4_readPair_1 : decode cX4_readPair 1 = .ok (.iconst 1, 1) := by decide +kernel
theorem dX4_readPair_2 : decode cX4_readPair 2 = .ok (.iadd, 1) := by decide +kernel
theorem dX4_readPair_3 : decode cX4_readPair 3 = .ok (.aload_n 0, 1) := by decide +kernel
theorem dX4_readPair_4 : decode cX4_readPair 4 = .ok (.getfield 30, 3) := by decide +kernel
theorem dX4_readPair_7 : decode cX4_readPair 7 = .ok (.arraylength, 1) := by decide +kernel
theorem dX4_readPair_8 : decode cX4_readPair 8 = .ok (.if_icmp .ge 23, 3) := by decide +kernel
theorem dX4_readPair_11 : decode cX4_readPair 11 = .ok (.aload_n 0, 1) := by decide +kernel
theorem dX4_readPair_12 : decode cX4_readPair 12 = .ok (.iload_n 1, 1) := by decide +kernel
theorem dX4_readPair_13 : decode cX4_readPair 13 = .ok (.iload_n 2, 1) := by decide +kernel
theorem dX4_readPair_14 : decode cX4_readPair 14 = .ok (.invokevirtual 46, 3) := by decide +kernel
theorem dX4_readPair_17 : decode cX4_readPair 17 = .ok (.ifCond .eq 14, 3) := by decide +kernel
theorem dX4_readPair_20 : decode cX4_readPair 20 = .ok (.aload_n 0, 1) := by decide +kernel
theorem dX4_readPair_21 : decode cX4_readPair 21 = .ok (.iload_n 1, 1) := by decide +kernel
theorem dX4_readPair_22 : decode cX4_readPair 22 = .ok (.iload_n 2, 1) := by decide +kernel
theorem dX4_readPair_23 : decode cX4_readPair 23 = .ok (.iconst 1, 1) := by decide +kernel
theorem dX4_readPair_24 : decode cX4_readPair 24 = .ok (.iadd, 1) := by decide +kernel
theorem dX4_readPair_25 : decode cX4_readPair 25 = .ok (.invokevirtual 46, 3) := by decide +kernel
theorem dX4_readPair_28 : decode cX4_readPair 28 = .ok (.ifCond .ne 5, 3) := by decide +kernel
theorem dX4_readPair_31 : decode cX4_readPair 31 = .ok (.iconst 0, 1) := by decide +kernel
theorem dX4_readPair_32 : decode cX4_readPair 32 = .ok (.ireturn, 1) := by decide +kernel
theorem dX4_readPair_33 : decode cX4_readPair 33 = .ok (.aload_n 0, 1) := by decide +kernel
theorem dX4_readPair_34 : decode cX4_readPair 34 = .ok (.getfield 30, 3) := by decide +kernel
theorem dX4_readPair_37 : decode cX4_readPair 37 = .ok (.iload_n 2, 1) := by decide +kernel
theorem dX4_readPair_38 : decode cX4_readPair 38 = .ok (.aaload, 1) := by decide +kernel
theorem dX4_readPair_39 : decode cX4_readPair 39 = .ok (.astore 5, 2) := by decide +kernel
theorem dX4_readPair_41 : decode cX4_readPair 41 = .ok (.aload_n 0, 1) := by decide +kernel
theorem dX4_readPair_42 : decode cX4_readPair 42 = .ok (.getfield 30, 3) := by decide +kernel
theorem dX4_readPair_45 : decode cX4_readPair 45 = .ok (.iload_n 2, 1) := by decide +kernel
theorem dX4_readPair_46 : decode cX4_readPair 46 = .ok (.iconst 1, 1) := by decide +kernel
theorem dX4_readPair_47 : decode cX4_readPair 47 = .ok (.iadd, 1) := by decide +kernel
theorem dX4_readPair_48 : decode cX4_readPair 48 = .ok (.aaload, 1) := by decide +kernel
theorem dX4_readPair_49 : decode cX4_readPair 49 = .ok (.astore 6, 2) := by decide +kernel
theorem dX4_readPair_51 : decode cX4_readPair 51 = .ok (.iload_n 3, 1) := by decide +kernel
theorem dX4_readPair_52 : decode cX4_readPair 52 = .ok (.iconst 5, 1) := by decide +kernel
theorem dX4_readPair_53 : decode cX4_readPair 53 = .ok (.if_icmp .ne 15, 3) := by decide +kernel
theorem dX4_readPair_56 : decode cX4_readPair 56 = .ok (.aload 5, 2) := by decide +kernel
theorem dX4_readPair_58 : decode cX4_readPair 58 = .ok (.aload 6, 2) := by decide +kernel
theorem dX4_readPair_60 : decode cX4_readPair 60 = .ok (.invokevirtual 108, 3) := by decide +kernel
theorem dX4_readPair_63 : decode cX4_readPair 63 = .ok (.istore 7, 2) := by decide +kernel
theorem dX4_readPair_65 : decode cX4_readPair 65 = .ok (.goto 30, 3) := by decide +kernel
theorem dX4_readPair_68 : decode cX4_readPair 68 = .ok (.iload_n 3, 1) := by decide +kernel
theorem dX4_readPair_69 : decode cX4_readPair 69 = .ok (.bipush 6, 2) := by decide +kernel
theorem dX4_readPair_71 : decode cX4_readPair 71 = .ok (.if_icmp .ne 15, 3) := by decide +kernel
theorem dX4_readPair_74 : decode cX4_readPair 74 = .ok (.aload 5, 2) := by decide +kernel
theorem dX4_readPair_76 : decode cX4_readPair 76 = .ok (.aload 6, 2) := by decide +kernel
theorem dX4_readPair_78 : decode cX4_readPair 78 = .ok (.invokevirtual 115, 3) := by decide +kernel
theorem dX4_readPair_81 : decode cX4_readPair 81 = .ok (.istore 7, 2) := by decide +kernel
theorem dX4_readPair_83 : decode cX4_readPair 83 = .ok (.goto 12, 3) := by decide +kernel
theorem dX4_readPair_86 : decode cX4_readPair 86 = .ok (.aload 5, 2) := by decide +kernel
theorem dX4_readPair_88 : decode cX4_readPair 88 = .ok (.aload 6, 2) := by decide +kernel
theorem dX4_readPair_90 : decode cX4_readPair 90 = .ok (.invokevirtual 118, 3) := by decide +kernel
theorem dX4_readPair_93 : decode cX4_readPair 93 = .ok (.istore 7, 2) := by decide +kernel
theorem dX4_readPair_95 : decode cX4_readPair 95 = .ok (.iload 7, 2) := by decide +kernel
theorem dX4_readPair_97 : decode cX4_readPair 97 = .ok (.ifCond .ne 16, 3) := by decide +kernel
theorem dX4_readPair_100 : decode cX4_readPair 100 = .ok (.aload_n 0, 1) := by decide +kernel
theorem dX4_readPair_101 : decode cX4_readPair 101 = .ok (.getfield 9, 3) := by decide +kernel
theorem dX4_readPair_104 : decode cX4_readPair 104 = .ok (.iconst 4, 1) := by decide +kernel
theorem dX4_readPair_105 : decode cX4_readPair 105 = .ok (.iload 4, 2) := by decide +kernel
theorem dX4_readPair_107 : decode cX4_readPair 107 = .ok (.invokevirtual 61, 3) := by decide +kernel
theorem dX4_readPair_110 : decode cX4_readPair 110 = .ok (.ifCond .eq 7, 3) := by decide +kernel
theorem dX4_readPair_113 : decode cX4_readPair 113 = .ok (.iconst 1, 1) := by decide +kernel
theorem dX4_readPair_114 : decode cX4_readPair 114 = .ok (.goto 4, 3) := by decide +kernel
theorem dX4_readPair_117 : decode cX4_readPair 117 = .ok (.iconst 0, 1) := by decide +kernel
theorem dX4_readPair_118 : decode cX4_readPair 118 = .ok (.ireturn, 1) := by decide +kernel
theorem dX4_readNumber_0 : decode cX4_readNumber 0 = .ok (.aload_n 0, 1) := by decide +kernel
theorem dX4_readNumber_1 : decode cX4_readNumber 1 = .ok (.getfield 24, 3) := by decide +kernel
theorem dX4_readNumber_4 : decode cX4_readNumber 4 = .ok (.invokevirtual 50, 3) := by decide +kernel
theorem dX4_readNumber_7 : decode cX4_readNumber 7 = .ok (.aload_n 0, 1) := by decide +kernel
theorem dX4_readNumber_8 : decode cX4_readNumber 8 = .ok (.getfield 24, 3) := by decide +kernel
theorem dX4_readNumber_11 : decode cX4_readNumber 11 = .ok (.getfield 121, 3) := by decide +kernel
theorem dX4_readNumber_14 : decode cX4_readNumber 14 = .ok (.istore_n 3, 1) := by decide +kernel
theorem dX4_readNumber_15 : decode cX4_readNumber 15 = .ok (.iload_n 3, 1) := by decide +kernel
theorem dX4_readNumber_16 : decode cX4_readNumber 16 = .ok (.iconst (-1), 1) := by decide +kernel
theorem dX4_readNumber_17 : decode cX4_readNumber 17 = .ok (.if_icmp .ne 21, 3) := by decide +kernel
theorem dX4_readNumber_20 : decode cX4_readNumber 20 = .ok (.aload_n 0, 1) := by decide +kernel
theorem dX4_readNumber_21 : decode cX4_readNumber 21 = .ok (.getfield 9, 3) := by decide +kernel
theorem dX4_readNumber_24 : decode cX4_readNumber 24 = .ok (.iconst 1, 1) := by decide +kernel
theorem dX4_readNumber_25 : decode cX4_readNumber 25 = .ok (.aload_n 0, 1) := by decide +kernel
theorem dX4_readNumber_26 : decode cX4_readNumber 26 = .ok (.getfield 24, 3) := by decide +kernel
theorem dX4_readNumber_29 : decode cX4_readNumber 29 = .ok (.getfield 57, 3) := by decide +kernel
theorem dX4_readNumber_32 : decode cX4_readNumber 32 = .ok (.invokevirtual 61, 3) := by decide +kernel
theorem dX4_readNumber_35 : decode cX4_readNumber 35 = .ok (.pop, 1) := by decide +kernel
theorem dX4_readNumber_36 : decode cX4_readNumber 36 = .ok (.iconst (-1), 1) := by decide +kernel
theorem dX4_readNumber_37 : decode cX4_readNumber 37 = .ok (.ireturn, 1) := by decide +kernel
theorem dX4_readNumber_38 : decode cX4_readNumber 38 = .ok (.iload_n 3, 1) := by decide +kernel
theorem dX4_readNumber_39 : decode cX4_readNumber 39 = .ok (.iload_n 1, 1) := by decide +kernel
theorem dX4_readNumber_40 : decode cX4_readNumber 40 = .ok (.if_icmp .lt 8, 3) := by decide +kernel
theorem dX4_readNumber_43 : decode cX4_readNumber 43 = .ok (.iload_n 3, 1) := by decide +kernel
theorem dX4_readNumber_44 : decode cX4_readNumber 44 = .ok (.iload_n 2, 1) := by decide +kernel
theorem dX4_readNumber_45 : decode cX4_readNumber 45 = .ok (.if_icmp .le 21, 3) := by decide +kernel
theorem dX4_readNumber_48 : decode cX4_readNumber 48 = .ok (.aload_n 0, 1) := by decide +kernel
theorem dX4_readNumber_49 : decode cX4_readNumber 49 = .ok (.getfield 9, 3) := by decide +kernel
theorem dX4_readNumber_52 : decode cX4_readNumber 52 = .ok (.iconst 2, 1) := by decide +kernel
theorem dX4_readNumber_53 : decode cX4_readNumber 53 = .ok (.aload_n 0, 1) := by decide +kernel
theorem dX4_readNumber_54 : decode cX4_readNumber 54 = .ok (.getfield 24, 3) := by decide +kernel
theorem dX4_readNumber_57 : decode cX4_readNumber 57 = .ok (.getfield 57, 3) := by decide +kernel
theorem dX4_readNumber_60 : decode cX4_readNumber 60 = .ok (.invokevirtual 61, 3) := by decide +kernel
theorem dX4_readNumber_63 : decode cX4_readNumber 63 = .ok (.pop, 1) := by decide +kernel
theorem dX4_readNumber_64 : decode cX4_readNumber 64 = .ok (.iconst (-1), 1) := by decide +kernel
theorem dX4_readNumber_65 : decode cX4_readNumber 65 = .ok (.ireturn, 1) := by decide +kernel
theorem dX4_readNumber_66 : decode cX4_readNumber 66 = .ok (.iload_n 3, 1) := by decide +kernel
theorem dX4_readNumber_67 : decode cX4_readNumber 67 = .ok (.ireturn, 1) := by decide +kernel
theorem dX5_init_0 : decode cX5_init 0 = .ok (.aload_n 0, 1) := by decide +kernel
theorem dX5_init_1 : decode cX5_init 1 = .ok (.invokespecial 3, 3) := by decide +kernel
theorem dX5_init_4 : decode cX5_init 4 = .ok (.aload_n 0, 1) := by decide +kernel
theorem dX5_init_5 : decode cX5_init 5 = .ok (.aload_n 1, 1) := by decide +kernel
theorem dX5_init_6 : decode cX5_init 6 = .ok (.putfield 9, 3) := by decide +kernel
theorem dX5_init_9 : decode cX5_init 9 = .ok (.return_, 1) := by decide +kernel
theorem dX5_rewind_0 : decode cX5_rewind 0 = .ok (.aload_n 0, 1) := by decide +kernel
theorem dX5_rewind_1 : decode cX5_rewind 1 = .ok (.iconst 0, 1) := by decide +kernel
theorem dX5_rewind_2 : decode cX5_rewind 2 = .ok (.putfield 15, 3) := by decide +kernel
theorem dX5_rewind_5 : decode cX5_rewind 5 = .ok (.return_, 1) := by decide +kernel
theorem dX5_advance_0 : decode cX5_advance 0 = .ok (.aload_n 0, 1) := by decide +kernel
theorem dX5_advance_1 : decode cX5_advance 1 = .ok (.getfield 15, 3) := by decide +kernel
theorem dX5_advance_4 : decode cX5_advance 4 = .ok (.aload_n 0, 1) := by decide +kernel
theorem dX5_advance_5 : decode cX5_advance 5 = .ok (.getfield 9, 3) := by decide +kernel
theorem dX5_advance_8 : decode cX5_advance 8 = .ok (.getfield 19, 3) := by decide +kernel
theorem dX5_advance_11 : decode cX5_advance 11 = .ok (.if_icmp .ge 33, 3) := by decide +kernel
theorem dX5_advance_14 : decode cX5_advance 14 = .ok (.aload_n 0, 1) := by decide +kernel
theorem dX5_advance_15 : decode cX5_advance 15 = .ok (.getfield 9, 3) := by decide +kernel
theorem dX5_advance_18 : decode cX5_advance 18 = .ok (.aload_n 0, 1) := by decide +kernel
theorem dX5_advance_19 : decode cX5_advance 19 = .ok (.getfield 15, 3) := by decide +kernel
theorem dX5_advance_22 : decode cX5_advance 22 = .ok (.invokevirtual 24, 3) := by decide +kernel
theorem dX5_advance_25 : decode cX5_advance 25 = .ok (.invokestatic 28, 3) := by decide +kernel
theorem dX5_advance_28 : decode cX5_advance 28 = .ok (.ifCond .eq 16, 3) := by decide +kernel
theorem dX5_advance_31 : decode cX5_advance 31 = .ok (.aload_n 0, 1) := by decide +kernel
theorem dX5_advance_32 : decode cX5_advance 32 = .ok (.dup, 1) := by decide +kernel
theorem dX5_advance_33 : decode cX5_advance 33 = .ok (.getfield 15, 3) := by decide +kernel
theorem dX5_advance_36 : decode cX5_advance 36 = .ok (.iconst 1, 1) := by decide +kernel
theorem dX5_advance_37 : decode cX5_advance 37 = .ok (.iadd, 1) := by decide +kernel
theorem dX5_advance_38 : decode cX5_advance 38 = .ok (.putfield 15, 3) := by decide +kernel
theorem dX5_advance_41 : decode cX5_advance 41 = .ok (.goto (-41), 3) := by decide +kernel
theorem dX5_advance_44 : decode cX5_advance 44 = .ok (.aload_n 0, 1) := by decide +kernel
theorem dX5_advance_45 : decode cX5_advance 45 = .ok (.aload_n 0, 1) := by decide +kernel
theorem dX5_advance_46 : decode cX5_advance 46 = .ok (.getfield 15, 3) := by decide +kernel
theorem dX5_advance_49 : decode cX5_advance 49 = .ok (.putfield 32, 3) := by decide +kernel
theorem dX5_advance_52 : decode cX5_advance 52 = .ok (.aload_n 0, 1) := by decide +kernel
theorem dX5_advance_53 : decode cX5_advance 53 = .ok (.iconst (-1), 1) := by decide +kernel
theorem dX5_advance_54 : decode cX5_advance 54 = .ok (.putfield 35, 3) := by decide +kernel
theorem dX5_advance_57 : decode cX5_advance 57 = .ok (.aload_n 0, 1) := by decide +kernel
theorem dX5_advance_58 : decode cX5_advance 58 = .ok (.aload_n 0, 1) := by decide +kernel
theorem dX5_advance_59 : decode cX5_advance 59 = .ok (.getfield 15, 3) := by decide +kernel
theorem dX5_advance_62 : decode cX5_advance 62 = .ok (.aload_n 0, 1) := by decide +kernel
theorem dX5_advance_63 : decode cX5_advance 63 = .ok (.getfield 9, 3) := by decide +kernel
theorem dX5_advance_66 : decode cX5_advance 66 = .ok (.getfield 19, 3) := by decide +kernel
theorem dX5_advance_69 : decode cX5_advance 69 = .ok (.if_icmp .lt 7, 3) := by decide +kernel
theorem dX5_advance_72 : decode cX5_advance 72 = .ok (.iconst 1, 1) := by decide +kernel
theorem dX5_advance_73 : decode cX5_advance 73 = .ok (.goto 4, 3) := by decide +kernel
theorem dX5_advance_76 : decode cX5_advance 76 = .ok (.iconst 0, 1) := by decide +kernel
theorem dX5_advance_77 : decode cX5_advance 77 = .ok (.putfield 38, 3) := by decide +kernel
theorem dX5_advance_80 : decode cX5_advance 80 = .ok (.aload_n 0, 1) := by decide +kernel
theorem dX5_advance_81 : decode cX5_advance 81 = .ok (.getfield 9, 3) := by decide +kernel
theorem dX5_advance_84 : decode cX5_advance 84 = .ok (.aload_n 0, 1) := by decide +kernel
theorem dX5_advance_85 : decode cX5_advance 85 = .ok (.getfield 15, 3) := by decide +kernel
theorem dX5_advance_88 : decode cX5_advance 88 = .ok (.invokevirtual 24, 3) := by decide +kernel
theorem dX5_advance_91 : decode cX5_advance 91 = .ok (.invokestatic 42, 3) := by decide +kernel
theorem dX5_advance_94 : decode cX5_advance 94 = .ok (.ifCond .eq 7, 3) := by decide +kernel
theorem dX5_advance_97 : decode cX5_advance 97 = .ok (.aload_n 0, 1) := by decide +kernel
theorem dX5_advance_98 : decode cX5_advance 98 = .ok (.invokevirtual 45, 3) := by decide +kernel
theorem dX5_advance_101 : decode cX5_advance 101 = .ok (.aload_n 0, 1) := by decide +kernel
theorem dX5_advance_102 : decode cX5_advance 102 = .ok (.getfield 35, 3) := by decide +kernel
theorem dX5_advance_105 : decode cX5_advance 105 = .ok (.iconst (-1), 1) := by decide +kernel
theorem dX5_advance_106 : decode cX5_advance 106 = .ok (.if_icmp .ne 47, 3) := by decide +kernel
theorem dX5_advance_109 : decode cX5_advance 109 = .ok (.aload_n 0, 1) := by decide +kernel
theorem dX5_advance_110 : decode cX5_advance 110 = .ok (.getfield 15, 3) := by decide +kernel
theorem dX5_advance_113 : decode cX5_advance 113 = .ok (.aload_n 0, 1) := by decide +kernel
theorem dX5_advance_114 : decode cX5_advance 114 = .ok (.getfield 9, 3) := by decide +kernel
theorem dX5_advance_117 : decode cX5_advance 117 = .ok (.getfield 19, 3) := by decide +kernel
theorem dX5_advance_120 : decode cX5_advance 120 = .ok (.if_icmp .ge 33, 3) := by decide +kernel
theorem dX5_advance_123 : decode cX5_advance 123 = .ok (.aload_n 0, 1) := by decide +kernel
theorem dX5_advance_124 : decode cX5_advance 124 = .ok (.getfield 9, 3) := by decide +kernel
theorem dX5_advance_127 : decode cX5_advance 127 = .ok (.aload_n 0, 1) := by decide +kernel
theorem dX5_advance_128 : decode cX5_advance 128 = .ok (.getfield 15, 3) := by decide +kernel
theorem dX5_advance_131 : decode cX5_advance 131 = .ok (.invokevirtual 24, 3) := by decide +kernel
theorem dX5_advance_134 : decode cX5_advance 134 = .ok (.invokestatic 48, 3) := by decide +kernel
theorem dX5_advance_137 : decode cX5_advance 137 = .ok (.ifCond .eq 16, 3) := by decide +kernel
theorem dX5_advance_140 : decode cX5_advance 140 = .ok (.aload_n 0, 1) := by decide +kernel
theorem dX5_advance_141 : decode cX5_advance 141 = .ok (.dup, 1) := by decide +kernel
theorem dX5_advance_142 : decode cX5_advance 142 = .ok (.getfield 15, 3) := by decide +kernel
theorem dX5_advance_145 : decode cX5_advance 145 = .ok (.iconst 1, 1) := by decide +kernel
theorem dX5_advance_146 : decode cX5_advance 146 = .ok (.iadd, 1) := by decide +kernel
theorem dX5_advance_147 : decode cX5_advance 147 = .ok (.putfield 15, 3) := by decide +kernel
theorem dX5_advance_150 : decode cX5_advance 150 = .ok (.goto (-49), 3) := by decide +kernel
theorem dX5_advance_153 : decode cX5_advance 153 = .ok (.return_, 1) := by decide +kernel
theorem dX5_takeNumber_0 : decode cX5_takeNumber 0 = .ok (.aload_n 0, 1) := by decide +kernel
theorem dX5_takeNumber_1 : decode cX5_takeNumber 1 = .ok (.iconst 0, 1) := by decide +kernel
theorem dX5_takeNumber_2 : decode cX5_takeNumber 2 = .ok (.putfield 35, 3) := by decide +kernel
theorem dX5_takeNumber_5 : decode cX5_takeNumber 5 = .ok (.aload_n 0, 1) := by decide +kernel
theorem dX5_takeNumber_6 : decode cX5_takeNumber 6 = .ok (.getfield 15, 3) := by decide +kernel
theorem dX5_takeNumber_9 : decode cX5_takeNumber 9 = .ok (.aload_n 0, 1) := by decide +kernel
theorem dX5_takeNumber_10 : decode cX5_takeNumber 10 = .ok (.getfield 9, 3) := by decide +kernel
theorem dX5_takeNumber_13 : decode cX5_takeNumber 13 = .ok (.getfield 19, 3) := by decide +kernel
theorem dX5_takeNumber_16 : decode cX5_takeNumber 16 = .ok (.if_icmp .ge 64, 3) := by decide +kernel
theorem dX5_takeNumber_19 : decode cX5_takeNumber 19 = .ok (.aload_n 0, 1) := by decide +kernel
theorem dX5_takeNumber_20 : decode cX5_takeNumber 20 = .ok (.getfield 9, 3) := by decide +kernel
theorem dX5_takeNumber_23 : decode cX5_takeNumber 23 = .ok (.aload_n 0, 1) := by decide +kernel
theorem dX5_takeNumber_24 : decode cX5_takeNumber 24 = .ok (.getfield 15, 3) := by decide +kernel
theorem dX5_takeNumber_27 : decode cX5_takeNumber 27 = .ok (.invokevirtual 24, 3) := by decide +kernel
theorem dX5_takeNumber_30 : decode cX5_takeNumber 30 = .ok (.invokestatic 42, 3) := by decide +kernel
theorem dX5_takeNumber_33 : decode cX5_takeNumber 33 = .ok (.ifCond .eq 47, 3) := by decide +kernel
theorem dX5_takeNumber_36 : decode cX5_takeNumber 36 = .ok (.aload_n 0, 1) := by decide +kernel
theorem dX5_takeNumber_37 : decode cX5_takeNumber 37 = .ok (.bipush 10, 2) := by decide +kernel
theorem dX5_takeNumber_39 : decode cX5_takeNumber 39 = .ok (.aload_n 0, 1) := by decide +kernel
theorem dX5_takeNumber_40 : decode cX5_takeNumber 40 = .ok (.getfield 35, 3) := by decide +kernel
theorem dX5_takeNumber_43 : decode cX5_takeNumber 43 = .ok (.imul, 1) := by decide +kernel
theorem dX5_takeNumber_44 : decode cX5_takeNumber 44 = .ok (.aload_n 0, 1) := by decide +kernel
theorem dX5_takeNumber_45 : decode cX5_takeNumber 45 = .ok (.getfield 9, 3) := by decide +kernel
theorem dX5_takeNumber_48 : decode cX5_takeNumber 48 = .ok (.aload_n 0, 1) := by decide +kernel
theorem dX5_takeNumber_49 : decode cX5_takeNumber 49 = .ok (.getfield 15, 3) := by decide +kernel
theorem dX5_takeNumber_52 : decode cX5_takeNumber 52 = .ok (.invokevirtual 24, 3) := by decide +kernel
theorem dX5_takeNumber_55 : decode cX5_takeNumber 55 = .ok (.iadd, 1) := by decide +kernel
theorem dX5_takeNumber_56 : decode cX5_takeNumber 56 = .ok (.bipush 48, 2) := by decide +kernel
theorem dX5_takeNumber_58 : decode cX5_takeNumber 58 = .ok (.isub, 1) := by decide +kernel
theorem dX5_takeNumber_59 : decode cX5_takeNumber 59 = .ok (.bipush 100, 2) := by decide +kernel
theorem dX5_takeNumber_61 : decode cX5_takeNumber 61 = .ok (.invokestatic 51, 3) := by decide +kernel
theorem dX5_takeNumber_64 : decode cX5_takeNumber 64 = .ok (.putfield 35, 3) := by decide +kernel
theorem dX5_takeNumber_67 : decode cX5_takeNumber 67 = .ok (.aload_n 0, 1) := by decide +kernel
theorem dX5_takeNumber_68 : decode cX5_takeNumber 68 = .ok (.dup, 1) := by decide +kernel
theorem dX5_takeNumber_69 : decode cX5_takeNumber 69 = .ok (.getfield 15, 3) := by decide +kernel
theorem dX5_takeNumber_72 : decode cX5_takeNumber 72 = .ok (.iconst 1, 1) := by decide +kernel
theorem dX5_takeNumber_73 : decode cX5_takeNumber 73 = .ok (.iadd, 1) := by decide +kernel
theorem dX5_takeNumber_74 : decode cX5_takeNumber 74 = .ok (.putfield 15, 3) := by decide +kernel
theorem dX5_takeNumber_77 : decode cX5_takeNumber 77 = .ok (.goto (-72), 3) := by decide +kernel
theorem dX5_takeNumber_80 : decode cX5_takeNumber 80 = .ok (.return_, 1) := by decide +kernel
theorem dX5_wordFound_0 : decode cX5_wordFound 0 = .ok (.aload_n 0, 1) := by decide +kernel
theorem dX5_wordFound_1 : decode cX5_wordFound 1 = .ok (.ldc 57, 2) := by decide +kernel
theorem dX5_wordFound_3 : decode cX5_wordFound 3 = .ok (.invokevirtual 59, 3) := by decide +kernel
theorem dX5_wordFound_6 : decode cX5_wordFound 6 = .ok (.ifCond .eq 5, 3) := by decide +kernel
theorem dX5_wordFound_9 : decode cX5_wordFound 9 = .ok (.iconst 1, 1) := by decide +kernel
theorem dX5_wordFound_10 : decode cX5_wordFound 10 = .ok (.ireturn, 1) := by decide +kernel
theorem dX5_wordFound_11 : decode cX5_wordFound 11 = .ok (.aload_n 0, 1) := by decide +kernel
theorem dX5_wordFound_12 : decode cX5_wordFound 12 = .ok (.ldc 63, 2) := by decide +kernel
theorem dX5_wordFound_14 : decode cX5_wordFound 14 = .ok (.invokevirtual 59, 3) := by decide +kernel
theorem dX5_wordFound_17 : decode cX5_wordFound 17 = .ok (.ifCond .eq 5, 3) := by decide +kernel
theorem dX5_wordFound_20 : decode cX5_wordFound 20 = .ok (.iconst 2, 1) := by decide +kernel
theorem dX5_wordFound_21 : decode cX5_wordFound 21 = .ok (.ireturn, 1) := by decide +kernel
theorem dX5_wordFound_22 : decode cX5_wordFound 22 = .ok (.aload_n 0, 1) := by decide +kernel
theorem dX5_wordFound_23 : decode cX5_wordFound 23 = .ok (.ldc 65, 2) := by decide +kernel
theorem dX5_wordFound_25 : decode cX5_wordFound 25 = .ok (.invokevirtual 59, 3) := by decide +kernel
theorem dX5_wordFound_28 : decode cX5_wordFound 28 = .ok (.ifCond .eq 5, 3) := by decide +kernel
theorem dX5_wordFound_31 : decode cX5_wordFound 31 = .ok (.iconst 3, 1) := by decide +kernel
theorem dX5_wordFound_32 : decode cX5_wordFound 32 = .ok (.ireturn, 1) := by decide +kernel
theorem dX5_wordFound_33 : decode cX5_wordFound 33 = .ok (.aload_n 0, 1) := by decide +kernel
theorem dX5_wordFound_34 : decode cX5_wordFound 34 = .ok (.ldc 67, 2) := by decide +kernel
theorem dX5_wordFound_36 : decode cX5_wordFound 36 = .ok (.invokevirtual 59, 3) := by decide +kernel
theorem dX5_wordFound_39 : decode cX5_wordFound 39 = .ok (.ifCond .eq 5, 3) := by decide +kernel
theorem dX5_wordFound_42 : decode cX5_wordFound 42 = .ok (.iconst 4, 1) := by decide +kernel
theorem dX5_wordFound_43 : decode cX5_wordFound 43 = .ok (.ireturn, 1) := by decide +kernel
theorem dX5_wordFound_44 : decode cX5_wordFound 44 = .ok (.aload_n 0, 1) := by decide +kernel
theorem dX5_wordFound_45 : decode cX5_wordFound 45 = .ok (.ldc 69, 2) := by decide +kernel
theorem dX5_wordFound_47 : decode cX5_wordFound 47 = .ok (.invokevirtual 59, 3) := by decide +kernel
theorem dX5_wordFound_50 : decode cX5_wordFound 50 = .ok (.ifCond .eq 5, 3) := by decide +kernel
theorem dX5_wordFound_53 : decode cX5_wordFound 53 = .ok (.iconst 5, 1) := by decide +kernel
theorem dX5_wordFound_54 : decode cX5_wordFound 54 = .ok (.ireturn, 1) := by decide +kernel
theorem dX5_wordFound_55 : decode cX5_wordFound 55 = .ok (.aload_n 0, 1) := by decide +kernel
theorem dX5_wordFound_56 : decode cX5_wordFound 56 = .ok (.ldc 71, 2) := by decide +kernel
theorem dX5_wordFound_58 : decode cX5_wordFound 58 = .ok (.invokevirtual 59, 3) := by decide +kernel
theorem dX5_wordFound_61 : decode cX5_wordFound 61 = .ok (.ifCond .eq 6, 3) := by decide +kernel
theorem dX5_wordFound_64 : decode cX5_wordFound 64 = .ok (.bipush 6, 2) := by decide +kernel
theorem dX5_wordFound_66 : decode cX5_wordFound 66 = .ok (.ireturn, 1) := by decide +kernel
theorem dX5_wordFound_67 : decode cX5_wordFound 67 = .ok (.aload_n 0, 1) := by decide +kernel
theorem dX5_wordFound_68 : decode cX5_wordFound 68 = .ok (.ldc 73, 2) := by decide +kernel
theorem dX5_wordFound_70 : decode cX5_wordFound 70 = .ok (.invokevirtual 59, 3) := by decide +kernel
theorem dX5_wordFound_73 : decode cX5_wordFound 73 = .ok (.ifCond .eq 6, 3) := by decide +kernel
theorem dX5_wordFound_76 : decode cX5_wordFound 76 = .ok (.bipush 7, 2) := by decide +kernel
theorem dX5_wordFound_78 : decode cX5_wordFound 78 = .ok (.ireturn, 1) := by decide +kernel
theorem dX5_wordFound_79 : decode cX5_wordFound 79 = .ok (.aload_n 0, 1) := by decide +kernel
theorem dX5_wordFound_80 : decode cX5_wordFound 80 = .ok (.ldc 75, 2) := by decide +kernel
theorem dX5_wordFound_82 : decode cX5_wordFound 82 = .ok (.invokevirtual 59, 3) := by decide +kernel
theorem dX5_wordFound_85 : decode cX5_wordFound 85 = .ok (.ifCond .eq 6, 3) := by decide +kernel
theorem dX5_wordFound_88 : decode cX5_wordFound 88 = .ok (.bipush 8, 2) := by decide +kernel
theorem dX5_wordFound_90 : decode cX5_wordFound 90 = .ok (.ireturn, 1) := by decide +kernel
theorem dX5_wordFound_91 : decode cX5_wordFound 91 = .ok (.aload_n 0, 1) := by decide +kernel
theorem dX5_wordFound_92 : decode cX5_wordFound 92 = .ok (.ldc 77, 2) := by decide +kernel
theorem dX5_wordFound_94 : decode cX5_wordFound 94 = .ok (.invokevirtual 59, 3) := by decide +kernel
theorem dX5_wordFound_97 : decode cX5_wordFound 97 = .ok (.ifCond .eq 6, 3) := by decide +kernel
theorem dX5_wordFound_100 : decode cX5_wordFound 100 = .ok (.bipush 9, 2) := by decide +kernel
theorem dX5_wordFound_102 : decode cX5_wordFound 102 = .ok (.ireturn, 1) := by decide +kernel
theorem dX5_wordFound_103 : decode cX5_wordFound 103 = .ok (.iconst 0, 1) := by decide +kernel
theorem dX5_wordFound_104 : decode cX5_wordFound 104 = .ok (.ireturn, 1) := by decide +kernel
theorem dX5_spells_0 : decode cX5_spells 0 = .ok (.aload_n 0, 1) := by decide +kernel
theorem dX5_spells_1 : decode cX5_spells 1 = .ok (.getfield 15, 3) := by decide +kernel
theorem dX5_spells_4 : decode cX5_spells 4 = .ok (.aload_n 0, 1) := by decide +kernel
theorem dX5_spells_5 : decode cX5_spells 5 = .ok (.getfield 32, 3) := by decide +kernel
theorem dX5_spells_8 : decode cX5_spells 8 = .ok (.isub, 1) := by decide +kernel
theorem dX5_spells_9 : decode cX5_spells 9 = .ok (.aload_n 1, 1) := by decide +kernel
theorem dX5_spells_10 : decode cX5_spells 10 = .ok (.invokevirtual 79, 3) := by decide +kernel
theorem dX5_spells_13 : decode cX5_spells 13 = .ok (.if_icmp .eq 5, 3) := by decide +kernel
theorem dX5_spells_16 : decode cX5_spells 16 = .ok (.iconst 0, 1) := by decide +kernel
theorem dX5_spells_17 : decode cX5_spells 17 = .ok (.ireturn, 1) := by decide +kernel
theorem dX5_spells_18 : decode cX5_spells 18 = .ok (.iconst 0, 1) := by decide +kernel
theorem dX5_spells_19 : decode cX5_spells 19 = .ok (.istore_n 2, 1) := by decide +kernel
theorem dX5_spells_20 : decode cX5_spells 20 = .ok (.iload_n 2, 1) := by decide +kernel
theorem dX5_spells_21 : decode cX5_spells 21 = .ok (.aload_n 1, 1) := by decide +kernel
theorem dX5_spells_22 : decode cX5_spells 22 = .ok (.invokevirtual 79, 3) := by decide +kernel
theorem dX5_spells_25 : decode cX5_spells 25 = .ok (.if_icmp .ge 32, 3) := by decide +kernel
theorem dX5_spells_28 : decode cX5_spells 28 = .ok (.aload_n 0, 1) := by decide +kernel
theorem dX5_spells_29 : decode cX5_spells 29 = .ok (.getfield 9, 3) := by decide +kernel
theorem dX5_spells_32 : decode cX5_spells 32 = .ok (.aload_n 0, 1) := by decide +kernel
theorem dX5_spells_33 : decode cX5_spells 33 = .ok (.getfield 32, 3) := by decide +kernel
theorem dX5_spells_36 : decode cX5_spells 36 = .ok (.iload_n 2, 1) := by decide +kernel
theorem dX5_spells_37 : decode cX5_spells 37 = .ok (.iadd, 1) := by decide +kernel
theorem dX5_spells_38 : decode cX5_spells 38 = .ok (.invokevirtual 24, 3) := by decide +kernel
theorem dX5_spells_41 : decode cX5_spells 41 = .ok (.aload_n 1, 1) := by decide +kernel
theorem dX5_spells_42 : decode cX5_spells 42 = .ok (.iload_n 2, 1) := by decide +kernel
theorem dX5_spells_43 : decode cX5_spells 43 = .ok (.invokevirtual 84, 3) := by decide +kernel
theorem dX5_spells_46 : decode cX5_spells 46 = .ok (.if_icmp .eq 5, 3) := by decide +kernel
theorem dX5_spells_49 : decode cX5_spells 49 = .ok (.iconst 0, 1) := by decide +kernel
theorem dX5_spells_50 : decode cX5_spells 50 = .ok (.ireturn, 1) := by decide +kernel
theorem dX5_spells_51 : decode cX5_spells 51 = .ok (.iinc 2 1, 3) := by decide +kernel
theorem dX5_spells_54 : decode cX5_spells 54 = .ok (.goto (-34), 3) := by decide +kernel
theorem dX5_spells_57 : decode cX5_spells 57 = .ok (.iconst 1, 1) := by decide +kernel
theorem dX5_spells_58 : decode cX5_spells 58 = .ok (.ireturn, 1) := by decide +kernel
theorem dX5_isBlank_0 : decode cX5_isBlank 0 = .ok (.iload_n 0, 1) := by decide +kernel
theorem dX5_isBlank_1 : decode cX5_isBlank 1 = .ok (.bipush 32, 2) := by decide +kernel
theorem dX5_isBlank_3 : decode cX5_isBlank 3 = .ok (.if_icmp .eq 9, 3) := by decide +kernel
theorem dX5_isBlank_6 : decode cX5_isBlank 6 = .ok (.iload_n 0, 1) := by decide +kernel
theorem dX5_isBlank_7 : decode cX5_isBlank 7 = .ok (.bipush 10, 2) := by decide +kernel
theorem dX5_isBlank_9 : decode cX5_isBlank 9 = .ok (.if_icmp .ne 7, 3) := by decide +kernel
theorem dX5_isBlank_12 : decode cX5_isBlank 12 = .ok (.iconst 1, 1) := by decide +kernel
theorem dX5_isBlank_13 : decode cX5_isBlank 13 = .ok (.goto 4, 3) := by decide +kernel
theorem dX5_isBlank_16 : decode cX5_isBlank 16 = .ok (.iconst 0, 1) := by decide +kernel
theorem dX5_isBlank_17 : decode cX5_isBlank 17 = .ok (.ireturn, 1) := by decide +kernel
theorem dX5_isDigit_0 : decode cX5_isDigit 0 = .ok (.iload_n 0, 1) := by decide +kernel
theorem dX5_isDigit_1 : decode cX5_isDigit 1 = .ok (.bipush 48, 2) := by decide +kernel
theorem dX5_isDigit_3 : decode cX5_isDigit 3 = .ok (.if_icmp .lt 13, 3) := by decide +kernel
theorem dX5_isDigit_6 : decode cX5_isDigit 6 = .ok (.iload_n 0, 1) := by decide +kernel
theorem dX5_isDigit_7 : decode cX5_isDigit 7 = .ok (.bipush 57, 2) := by decide +kernel
theorem dX5_isDigit_9 : decode cX5_isDigit 9 = .ok (.if_icmp .gt 7, 3) := by decide +kernel
theorem dX5_isDigit_12 : decode cX5_isDigit 12 = .ok (.iconst 1, 1) := by decide +kernel
theorem dX5_isDigit_13 : decode cX5_isDigit 13 = .ok (.goto 4, 3) := by decide +kernel
theorem dX5_isDigit_16 : decode cX5_isDigit 16 = .ok (.iconst 0, 1) := by decide +kernel
theorem dX5_isDigit_17 : decode cX5_isDigit 17 = .ok (.ireturn, 1) := by decide +kernel
theorem dX5_isLetter_0 : decode cX5_isLetter 0 = .ok (.iload_n 0, 1) := by decide +kernel
theorem dX5_isLetter_1 : decode cX5_isLetter 1 = .ok (.bipush 97, 2) := by decide +kernel
theorem dX5_isLetter_3 : decode cX5_isLetter 3 = .ok (.if_icmp .lt 13, 3) := by decide +kernel
theorem dX5_isLetter_6 : decode cX5_isLetter 6 = .ok (.iload_n 0, 1) := by decide +kernel
theorem dX5_isLetter_7 : decode cX5_isLetter 7 = .ok (.bipush 122, 2) := by decide +kernel
theorem dX5_isLetter_9 : decode cX5_isLetter 9 = .ok (.if_icmp .gt 7, 3) := by decide +kernel
theorem dX5_isLetter_12 : decode cX5_isLetter 12 = .ok (.iconst 1, 1) := by decide +kernel
theorem dX5_isLetter_13 : decode cX5_isLetter 13 = .ok (.goto 4, 3) := by decide +kernel
theorem dX5_isLetter_16 : decode cX5_isLetter 16 = .ok (.iconst 0, 1) := by decide +kernel
theorem dX5_isLetter_17 : decode cX5_isLetter 17 = .ok (.ireturn, 1) := by decide +kernel
theorem dX6_init_0 : decode cX6_init 0 = .ok (.aload_n 0, 1) := by decide +kernel
theorem dX6_init_1 : decode cX6_init 1 = .ok (.invokespecial 3, 3) := by decide +kernel
theorem dX6_init_4 : decode cX6_init 4 = .ok (.aload_n 0, 1) := by decide +kernel
theorem dX6_init_5 : decode cX6_init 5 = .ok (.sipush 256, 3) := by decide +kernel
theorem dX6_init_8 : decode cX6_init 8 = .ok (.newarray .int, 2) := by decide +kernel
theorem dX6_init_10 : decode cX6_init 10 = .ok (.putfield 9, 3) := by decide +kernel
theorem dX6_init_13 : decode cX6_init 13 = .ok (.aload_n 0, 1) := by decide +kernel
theorem dX6_init_14 : decode cX6_init 14 = .ok (.sipush 128, 3) := by decide +kernel
theorem dX6_init_17 : decode cX6_init 17 = .ok (.newarray .int, 2) := by decide +kernel
theorem dX6_init_19 : decode cX6_init 19 = .ok (.putfield 15, 3) := by decide +kernel
theorem dX6_init_22 : decode cX6_init 22 = .ok (.aload_n 0, 1) := by decide +kernel
theorem dX6_init_23 : decode cX6_init 23 = .ok (.aload_n 1, 1) := by decide +kernel
theorem dX6_init_24 : decode cX6_init 24 = .ok (.putfield 18, 3) := by decide +kernel
theorem dX6_init_27 : decode cX6_init 27 = .ok (.return_, 1) := by decide +kernel
theorem dX6_readInto_0 : decode cX6_readInto 0 = .ok (.aload_n 0, 1) := by decide +kernel
theorem dX6_readInto_1 : decode cX6_readInto 1 = .ok (.getfield 18, 3) := by decide +kernel
theorem dX6_readInto_4 : decode cX6_readInto 4 = .ok (.invokevirtual 22, 3) := by decide +kernel
theorem dX6_readInto_7 : decode cX6_readInto 7 = .ok (.aload_n 0, 1) := by decide +kernel
theorem dX6_readInto_8 : decode cX6_readInto 8 = .ok (.getfield 9, 3) := by decide +kernel
theorem dX6_readInto_11 : decode cX6_readInto 11 = .ok (.iconst 0, 1) := by decide +kernel
theorem dX6_readInto_12 : decode cX6_readInto 12 = .ok (.invokestatic 27, 3) := by decide +kernel
theorem dX6_readInto_15 : decode cX6_readInto 15 = .ok (.aload_n 0, 1) := by decide +kernel
theorem dX6_readInto_16 : decode cX6_readInto 16 = .ok (.getfield 15, 3) := by decide +kernel
theorem dX6_readInto_19 : decode cX6_readInto 19 = .ok (.iconst 0, 1) := by decide +kernel
theorem dX6_readInto_20 : decode cX6_readInto 20 = .ok (.invokestatic 27, 3) := by decide +kernel
theorem dX6_readInto_23 : decode cX6_readInto 23 = .ok (.aload_n 0, 1) := by decide +kernel
theorem dX6_readInto_24 : decode cX6_readInto 24 = .ok (.iconst 0, 1) := by decide +kernel
theorem dX6_readInto_25 : decode cX6_readInto 25 = .ok (.putfield 33, 3) := by decide +kernel
theorem dX6_readInto_28 : decode cX6_readInto 28 = .ok (.iload_n 2, 1) := by decide +kernel
theorem dX6_readInto_29 : decode cX6_readInto 29 = .ok (.istore 4, 2) := by decide +kernel
theorem dX6_readInto_31 : decode cX6_readInto 31 = .ok (.iload_n 3, 1) := by decide +kernel
theorem dX6_readInto_32 : decode cX6_readInto 32 = .ok (.istore 5, 2) := by decide +kernel
theorem dX6_readInto_34 : decode cX6_readInto 34 = .ok (.iconst 0, 1) := by decide +kernel
theorem dX6_readInto_35 : decode cX6_readInto 35 = .ok (.istore 6, 2) := by decide +kernel
theorem dX6_readInto_37 : decode cX6_readInto 37 = .ok (.iload 6, 2) := by decide +kernel
theorem dX6_readInto_39 : decode cX6_readInto 39 = .ok (.aload_n 0, 1) := by decide +kernel
theorem dX6_readInto_40 : decode cX6_readInto 40 = .ok (.getfield 18, 3) := by decide +kernel
theorem dX6_readInto_43 : decode cX6_readInto 43 = .ok (.getfield 37, 3) := by decide +kernel
theorem dX6_readInto_46 : decode cX6_readInto 46 = .ok (.if_icmp .ge 191, 3) := by decide +kernel
theorem dX6_readInto_49 : decode cX6_readInto 49 = .ok (.aload_n 0, 1) := by decide +kernel
theorem dX6_readInto_50 : decode cX6_readInto 50 = .ok (.getfield 18, 3) := by decide +kernel
theorem dX6_readInto_53 : decode cX6_readInto 53 = .ok (.iload 6, 2) := by decide +kernel
theorem dX6_readInto_55 : decode cX6_readInto 55 = .ok (.invokevirtual 40, 3) := by decide +kernel
theorem dX6_readInto_58 : decode cX6_readInto 58 = .ok (.istore 7, 2) := by decide +kernel
theorem dX6_readInto_60 : decode cX6_readInto 60 = .ok (.iload 7, 2) := by decide +kernel
theorem dX6_readInto_62 : decode cX6_readInto 62 = .ok (.bipush 97, 2) := by decide +kernel
theorem dX6_readInto_64 : decode cX6_readInto 64 = .ok (.if_icmp .lt 10, 3) := by decide +kernel
theorem dX6_readInto_67 : decode cX6_readInto 67 = .ok (.iload 7, 2) := by decide +kernel
theorem dX6_readInto_69 : decode cX6_readInto 69 = .ok (.bipush 100, 2) := by decide +kernel
theorem dX6_readInto_71 : decode cX6_readInto 71 = .ok (.if_icmp .le 14, 3) := by decide +kernel
theorem dX6_readInto_74 : decode cX6_readInto 74 = .ok (.aload_n 0, 1) := by decide +kernel
theorem dX6_readInto_75 : decode cX6_readInto 75 = .ok (.getfield 18, 3) := by decide +kernel
theorem dX6_readInto_78 : decode cX6_readInto 78 = .ok (.iconst 1, 1) := by decide +kernel
theorem dX6_readInto_79 : decode cX6_readInto 79 = .ok (.iload 6, 2) := by decide +kernel
theorem dX6_readInto_81 : decode cX6_readInto 81 = .ok (.invokevirtual 44, 3) := by decide +kernel
theorem dX6_readInto_84 : decode cX6_readInto 84 = .ok (.ireturn, 1) := by decide +kernel
theorem dX6_readInto_85 : decode cX6_readInto 85 = .ok (.iload 4, 2) := by decide +kernel
theorem dX6_readInto_87 : decode cX6_readInto 87 = .ok (.iload 7, 2) := by decide +kernel
theorem dX6_readInto_89 : decode cX6_readInto 89 = .ok (.invokestatic 48, 3) := by decide +kernel
theorem dX6_readInto_92 : decode cX6_readInto 92 = .ok (.iadd, 1) := by decide +kernel
theorem dX6_readInto_93 : decode cX6_readInto 93 = .ok (.istore 8, 2) := by decide +kernel
theorem dX6_readInto_95 : decode cX6_readInto 95 = .ok (.iload 5, 2) := by decide +kernel
theorem dX6_readInto_97 : decode cX6_readInto 97 = .ok (.iload 7, 2) := by decide +kernel
theorem dX6_readInto_99 : decode cX6_readInto 99 = .ok (.invokestatic 51, 3) := by decide +kernel
theorem dX6_readInto_102 : decode cX6_readInto 102 = .ok (.iadd, 1) := by decide +kernel
theorem dX6_readInto_103 : decode cX6_readInto 103 = .ok (.istore 9, 2) := by decide +kernel
theorem dX6_readInto_105 : decode cX6_readInto 105 = .ok (.aload_n 1, 1) := by decide +kernel
theorem dX6_readInto_106 : decode cX6_readInto 106 = .ok (.iload 8, 2) := by decide +kernel
theorem dX6_readInto_108 : decode cX6_readInto 108 = .ok (.iload 9, 2) := by decide +kernel
theorem dX6_readInto_110 : decode cX6_readInto 110 = .ok (.invokevirtual 54, 3) := by decide +kernel
theorem dX6_readInto_113 : decode cX6_readInto 113 = .ok (.ifCond .ne 14, 3) := by decide +kernel
theorem dX6_readInto_116 : decode cX6_readInto 116 = .ok (.aload_n 0, 1) := by decide +kernel
theorem dX6_readInto_117 : decode cX6_readInto 117 = .ok (.getfield 18, 3) := by decide +kernel
theorem dX6_readInto_120 : decode cX6_readInto 120 = .ok (.iconst 2, 1) := by decide +kernel
theorem dX6_readInto_121 : decode cX6_readInto 121 = .ok (.iload 6, 2) := by decide +kernel
theorem dX6_readInto_123 : decode cX6_readInto 123 = .ok (.invokevirtual 44, 3) := by decide +kernel
theorem dX6_readInto_126 : decode cX6_readInto 126 = .ok (.ireturn, 1) := by decide +kernel
theorem dX6_readInto_127 : decode cX6_readInto 127 = .ok (.iconst 2, 1) := by decide +kernel
theorem dX6_readInto_128 : decode cX6_readInto 128 = .ok (.aload_n 1, 1) := by decide +kernel
theorem dX6_readInto_129 : decode cX6_readInto 129 = .ok (.getfield 59, 3) := by decide +kernel
theorem dX6_readInto_132 : decode cX6_readInto 132 = .ok (.imul, 1) := by decide +kernel
theorem dX6_readInto_133 : decode cX6_readInto 133 = .ok (.iload 5, 2) := by decide +kernel
theorem dX6_readInto_135 : decode cX6_readInto 135 = .ok (.iload 9, 2) := by decide +kernel
theorem dX6_readInto_137 : decode cX6_readInto 137 = .ok (.invokestatic 62, 3) := by decide +kernel
theorem dX6_readInto_140 : decode cX6_readInto 140 = .ok (.imul, 1) := by decide +kernel
theorem dX6_readInto_141 : decode cX6_readInto 141 = .ok (.iload 4, 2) := by decide +kernel
theorem dX6_readInto_143 : decode cX6_readInto 143 = .ok (.iload 8, 2) := by decide +kernel
theorem dX6_readInto_145 : decode cX6_readInto 145 = .ok (.invokestatic 62, 3) := by decide +kernel
theorem dX6_readInto_148 : decode cX6_readInto 148 = .ok (.iadd, 1) := by decide +kernel
theorem dX6_readInto_149 : decode cX6_readInto 149 = .ok (.istore 10, 2) := by decide +kernel
theorem dX6_readInto_151 : decode cX6_readInto 151 = .ok (.aload_n 1, 1) := by decide +kernel
theorem dX6_readInto_152 : decode cX6_readInto 152 = .ok (.iload 10, 2) := by decide +kernel
theorem dX6_readInto_154 : decode cX6_readInto 154 = .ok (.invokevirtual 68, 3) := by decide +kernel
theorem dX6_readInto_157 : decode cX6_readInto 157 = .ok (.ifCond .eq 13, 3) := by decide +kernel
theorem dX6_readInto_160 : decode cX6_readInto 160 = .ok (.aload_n 0, 1) := by decide +kernel
theorem dX6_readInto_161 : decode cX6_readInto 161 = .ok (.getfield 9, 3) := by decide +kernel
theorem dX6_readInto_164 : decode cX6_readInto 164 = .ok (.iload 10, 2) := by decide +kernel
theorem dX6_readInto_166 : decode cX6_readInto 166 = .ok (.iaload, 1) := by decide +kernel
theorem dX6_readInto_167 : decode cX6_readInto 167 = .ok (.ifCond .eq 14, 3) := by decide +kernel
theorem dX6_readInto_170 : decode cX6_readInto 170 = .ok (.aload_n 0, 1) := by decide +kernel
theorem dX6_readInto_171 : decode cX6_readInto 171 = .ok (.getfield 18, 3) := by decide +kernel
theorem dX6_readInto_174 : decode cX6_readInto 174 = .ok (.iconst 3, 1) := by decide +kernel
theorem dX6_readInto_175 : decode cX6_readInto 175 = .ok (.iload 6, 2) := by decide +kernel
theorem dX6_readInto_177 : decode cX6_readInto 177 = .ok (.invokevirtual 44, 3) := by decide +kernel
theorem dX6_readInto_180 : decode cX6_readInto 180 = .ok (.ireturn, 1) := by decide +kernel
theorem dX6_readInto_181 : decode cX6_readInto 181 = .ok (.aload_n 0, 1) := by decide +kernel
theorem dX6_readInto_182 : decode cX6_readInto 182 = .ok (.getfield 9, 3) := by decide +kernel
theorem dX6_readInto_185 : decode cX6_readInto 185 = .ok (.iload 10, 2) := by decide +kernel
theorem dX6_readInto_187 : decode cX6_readInto 187 = .ok (.iconst 1, 1) := by decide +kernel
theorem dX6_readInto_188 : decode cX6_readInto 188 = .ok (.iastore, 1) := by decide +kernel
theorem dX6_readInto_189 : decode cX6_readInto 189 = .ok (.iload 6, 2) := by decide +kernel
theorem dX6_readInto_191 : decode cX6_readInto 191 = .ok (.ifCond .le 14, 3) := by decide +kernel
theorem dX6_readInto_194 : decode cX6_readInto 194 = .ok (.aload_n 0, 1) := by decide +kernel
theorem dX6_readInto_195 : decode cX6_readInto 195 = .ok (.aload_n 1, 1) := by decide +kernel
theorem dX6_readInto_196 : decode cX6_readInto 196 = .ok (.iload 4, 2) := by decide +kernel
theorem dX6_readInto_198 : decode cX6_readInto 198 = .ok (.iload 5, 2) := by decide +kernel
theorem dX6_readInto_200 : decode cX6_readInto 200 = .ok (.iload 7, 2) := by decide +kernel
theorem dX6_readInto_202 : decode cX6_readInto 202 = .ok (.invokevirtual 72, 3) := by decide +kernel
theorem dX6_readInto_205 : decode cX6_readInto 205 = .ok (.aload_n 0, 1) := by decide +kernel
theorem dX6_readInto_206 : decode cX6_readInto 206 = .ok (.iload 7, 2) := by decide +kernel
theorem dX6_readInto_208 : decode cX6_readInto 208 = .ok (.invokestatic 48, 3) := by decide +kernel
theorem dX6_readInto_211 : decode cX6_readInto 211 = .ok (.putfield 76, 3) := by decide +kernel
theorem dX6_readInto_214 : decode cX6_readInto 214 = .ok (.aload_n 0, 1) := by decide +kernel
theorem dX6_readInto_215 : decode cX6_readInto 215 = .ok (.iload 7, 2) := by decide +kernel
theorem dX6_readInto_217 : decode cX6_readInto 217 = .ok (.invokestatic 51, 3) := by decide +kernel
theorem dX6_readInto_220 : decode cX6_readInto 220 = .ok (.putfield 79, 3) := by decide +kernel
theorem dX6_readInto_223 : decode cX6_readInto 223 = .ok (.iload 8, 2) := by decide +kernel
theorem dX6_readInto_225 : decode cX6_readInto 225 = .ok (.istore 4, 2) := by decide +kernel
theorem dX6_readInto_227 : decode cX6_readInto 227 = .ok (.iload 9, 2) := by decide +kernel
theorem dX6_readInto_229 : decode cX6_readInto 229 = .ok (.istore 5, 2) := by decide +kernel
theorem dX6_readInto_231 : decode cX6_readInto 231 = .ok (.iinc 6 1, 3) := by decide +kernel
theorem dX6_readInto_234 : decode cX6_readInto 234 = .ok (.goto (-197), 3) := by decide +kernel
theorem dX6_readInto_237 : decode cX6_readInto 237 = .ok (.aload_n 0, 1) := by decide +kernel
theorem dX6_readInto_238 : decode cX6_readInto 238 = .ok (.getfield 18, 3) := by decide +kernel
theorem dX6_readInto_241 : decode cX6_readInto 241 = .ok (.getfield 37, 3) := by decide +kernel
theorem dX6_readInto_244 : decode cX6_readInto 244 = .ok (.ifCond .eq 15, 3) := by decide +kernel
theorem dX6_readInto_247 : decode cX6_readInto 247 = .ok (.iload 4, 2) := by decide +kernel
theorem dX6_readInto_249 : decode cX6_readInto 249 = .ok (.iload_n 2, 1) := by decide +kernel
theorem dX6_readInto_250 : decode cX6_readInto 250 = .ok (.if_icmp .ne 9, 3) := by decide +kernel
theorem dX6_readInto_253 : decode cX6_readInto 253 = .ok (.iload 5, 2) := by decide +kernel
theorem dX6_readInto_255 : decode cX6_readInto 255 = .ok (.iload_n 3, 1) := by decide +kernel
theorem dX6_readInto_256 : decode cX6_readInto 256 = .ok (.if_icmp .eq 19, 3) := by decide +kernel
theorem dX6_readInto_259 : decode cX6_readInto 259 = .ok (.aload_n 0, 1) := by decide +kernel
theorem dX6_readInto_260 : decode cX6_readInto 260 = .ok (.getfield 18, 3) := by decide +kernel
theorem dX6_readInto_263 : decode cX6_readInto 263 = .ok (.iconst 4, 1) := by decide +kernel
theorem dX6_readInto_264 : decode cX6_readInto 264 = .ok (.aload_n 0, 1) := by decide +kernel
theorem dX6_readInto_265 : decode cX6_readInto 265 = .ok (.getfield 18, 3) := by decide +kernel
theorem dX6_readInto_268 : decode cX6_readInto 268 = .ok (.getfield 37, 3) := by decide +kernel
theorem dX6_readInto_271 : decode cX6_readInto 271 = .ok (.invokevirtual 44, 3) := by decide +kernel
theorem dX6_readInto_274 : decode cX6_readInto 274 = .ok (.ireturn, 1) := by decide +kernel
theorem dX6_readInto_275 : decode cX6_readInto 275 = .ok (.aload_n 0, 1) := by decide +kernel
theorem dX6_readInto_276 : decode cX6_readInto 276 = .ok (.aload_n 1, 1) := by decide +kernel
theorem dX6_readInto_277 : decode cX6_readInto 277 = .ok (.iload 4, 2) := by decide +kernel
theorem dX6_readInto_279 : decode cX6_readInto 279 = .ok (.iload 5, 2) := by decide +kernel
theorem dX6_readInto_281 : decode cX6_readInto 281 = .ok (.aload_n 0, 1) := by decide +kernel
theorem dX6_readInto_282 : decode cX6_readInto 282 = .ok (.getfield 18, 3) := by decide +kernel
theorem dX6_readInto_285 : decode cX6_readInto 285 = .ok (.iconst 0, 1) := by decide +kernel
theorem dX6_readInto_286 : decode cX6_readInto 286 = .ok (.invokevirtual 40, 3) := by decide +kernel
theorem dX6_readInto_289 : decode cX6_readInto 289 = .ok (.invokevirtual 72, 3) := by decide +kernel
theorem dX6_readInto_292 : decode cX6_readInto 292 = .ok (.iconst 1, 1) := by decide +kernel
theorem dX6_readInto_293 : decode cX6_readInto 293 = .ok (.ireturn, 1) := by decide +kernel
theorem dX6_tellPoint_0 : decode cX6_tellPoint 0 = .ok (.aload_n 1, 1) := by decide +kernel
theorem dX6_tellPoint_1 : decode cX6_tellPoint 1 = .ok (.iload_n 2, 1) := by decide +kernel
theorem dX6_tellPoint_2 : decode cX6_tellPoint 2 = .ok (.iload_n 3, 1) := by decide +kernel
theorem dX6_tellPoint_3 : decode cX6_tellPoint 3 = .ok (.invokevirtual 82, 3) := by decide +kernel
theorem dX6_tellPoint_6 : decode cX6_tellPoint 6 = .ok (.ifCond .ne 4, 3) := by decide +kernel
theorem dX6_tellPoint_9 : decode cX6_tellPoint 9 = .ok (.return_, 1) := by decide +kernel
theorem dX6_tellPoint_10 : decode cX6_tellPoint 10 = .ok (.iconst 0, 1) := by decide +kernel
theorem dX6_tellPoint_11 : decode cX6_tellPoint 11 = .ok (.istore 5, 2) := by decide +kernel
theorem dX6_tellPoint_13 : decode cX6_tellPoint 13 = .ok (.aload_n 0, 1) := by decide +kernel
theorem dX6_tellPoint_14 : decode cX6_tellPoint 14 = .ok (.getfield 76, 3) := by decide +kernel
theorem dX6_tellPoint_17 : decode cX6_tellPoint 17 = .ok (.iload 4, 2) := by decide +kernel
theorem dX6_tellPoint_19 : decode cX6_tellPoint 19 = .ok (.invokestatic 48, 3) := by decide +kernel
theorem dX6_tellPoint_22 : decode cX6_tellPoint 22 = .ok (.if_icmp .eq 9, 3) := by decide +kernel
theorem dX6_tellPoint_25 : decode cX6_tellPoint 25 = .ok (.iconst 1, 1) := by decide +kernel
theorem dX6_tellPoint_26 : decode cX6_tellPoint 26 = .ok (.istore 5, 2) := by decide +kernel
theorem dX6_tellPoint_28 : decode cX6_tellPoint 28 = .ok (.goto 18, 3) := by decide +kernel
theorem dX6_tellPoint_31 : decode cX6_tellPoint 31 = .ok (.aload_n 0, 1) := by decide +kernel
theorem dX6_tellPoint_32 : decode cX6_tellPoint 32 = .ok (.getfield 79, 3) := by decide +kernel
theorem dX6_tellPoint_35 : decode cX6_tellPoint 35 = .ok (.iload 4, 2) := by decide +kernel
theorem dX6_tellPoint_37 : decode cX6_tellPoint 37 = .ok (.invokestatic 51, 3) := by decide +kernel
theorem dX6_tellPoint_40 : decode cX6_tellPoint 40 = .ok (.if_icmp .eq 6, 3) := by decide +kernel
theorem dX6_tellPoint_43 : decode cX6_tellPoint 43 = .ok (.iconst 2, 1) := by decide +kernel
theorem dX6_tellPoint_44 : decode cX6_tellPoint 44 = .ok (.istore 5, 2) := by decide +kernel
theorem dX6_tellPoint_46 : decode cX6_tellPoint 46 = .ok (.aload_n 1, 1) := by decide +kernel
theorem dX6_tellPoint_47 : decode cX6_tellPoint 47 = .ok (.iload_n 2, 1) := by decide +kernel
theorem dX6_tellPoint_48 : decode cX6_tellPoint 48 = .ok (.iload_n 3, 1) := by decide +kernel
theorem dX6_tellPoint_49 : decode cX6_tellPoint 49 = .ok (.iload 5, 2) := by decide +kernel
theorem dX6_tellPoint_51 : decode cX6_tellPoint 51 = .ok (.invokevirtual 85, 3) := by decide +kernel
theorem dX6_tellPoint_54 : decode cX6_tellPoint 54 = .ok (.iload_n 2, 1) := by decide +kernel
theorem dX6_tellPoint_55 : decode cX6_tellPoint 55 = .ok (.iload_n 3, 1) := by decide +kernel
theorem dX6_tellPoint_56 : decode cX6_tellPoint 56 = .ok (.invokestatic 89, 3) := by decide +kernel
theorem dX6_tellPoint_59 : decode cX6_tellPoint 59 = .ok (.istore 6, 2) := by decide +kernel
theorem dX6_tellPoint_61 : decode cX6_tellPoint 61 = .ok (.aload_n 0, 1) := by decide +kernel
theorem dX6_tellPoint_62 : decode cX6_tellPoint 62 = .ok (.getfield 15, 3) := by decide +kernel
theorem dX6_tellPoint_65 : decode cX6_tellPoint 65 = .ok (.iload 6, 2) := by decide +kernel
theorem dX6_tellPoint_67 : decode cX6_tellPoint 67 = .ok (.iaload, 1) := by decide +kernel
theorem dX6_tellPoint_68 : decode cX6_tellPoint 68 = .ok (.ifCond .ne 21, 3) := by decide +kernel
theorem dX6_tellPoint_71 : decode cX6_tellPoint 71 = .ok (.aload_n 0, 1) := by decide +kernel
theorem dX6_tellPoint_72 : decode cX6_tellPoint 72 = .ok (.getfield 15, 3) := by decide +kernel
theorem dX6_tellPoint_75 : decode cX6_tellPoint 75 = .ok (.iload 6, 2) := by decide +kernel
theorem dX6_tellPoint_77 : decode cX6_tellPoint 77 = .ok (.iconst 1, 1) := by decide +kernel
theorem dX6_tellPoint_78 : decode cX6_tellPoint 78 = .ok (.iastore, 1) := by decide +kernel
theorem dX6_tellPoint_79 : decode cX6_tellPoint 79 = .ok (.aload_n 0, 1) := by decide +kernel
theorem dX6_tellPoint_80 : decode cX6_tellPoint 80 = .ok (.dup, 1) := by decide +kernel
theorem dX6_tellPoint_81 : decode cX6_tellPoint 81 = .ok (.getfield 33, 3) := by decide +kernel
theorem dX6_tellPoint_84 : decode cX6_tellPoint 84 = .ok (.iconst 1, 1) := by decide +kernel
theorem dX6_tellPoint_85 : decode cX6_tellPoint 85 = .ok (.iadd, 1) := by decide +kernel
theorem dX6_tellPoint_86 : decode cX6_tellPoint 86 = .ok (.putfield 33, 3) := by decide +kernel
theorem dX6_tellPoint_89 : decode cX6_tellPoint 89 = .ok (.return_, 1) := by decide +kernel
theorem dX6_rightOf_0 : decode cX6_rightOf 0 = .ok (.iload_n 0, 1) := by decide +kernel
theorem dX6_rightOf_1 : decode cX6_rightOf 1 = .ok (.bipush 97, 2) := by decide +kernel
theorem dX6_rightOf_3 : decode cX6_rightOf 3 = .ok (.if_icmp .eq 9, 3) := by decide +kernel
theorem dX6_rightOf_6 : decode cX6_rightOf 6 = .ok (.iload_n 0, 1) := by decide +kernel
theorem dX6_rightOf_7 : decode cX6_rightOf 7 = .ok (.bipush 100, 2) := by decide +kernel
theorem dX6_rightOf_9 : decode cX6_rightOf 9 = .ok (.if_icmp .ne 7, 3) := by decide +kernel
theorem dX6_rightOf_12 : decode cX6_rightOf 12 = .ok (.iconst 1, 1) := by decide +kernel
theorem dX6_rightOf_13 : decode cX6_rightOf 13 = .ok (.goto 4, 3) := by decide +kernel
theorem dX6_rightOf_16 : decode cX6_rightOf 16 = .ok (.iconst (-1), 1) := by decide +kernel
theorem dX6_rightOf_17 : decode cX6_rightOf 17 = .ok (.ireturn, 1) := by decide +kernel
theorem dX6_downOf_0 : decode cX6_downOf 0 = .ok (.iload_n 0, 1) := by decide +kernel
theorem dX6_downOf_1 : decode cX6_downOf 1 = .ok (.bipush 97, 2) := by decide +kernel
theorem dX6_downOf_3 : decode cX6_downOf 3 = .ok (.if_icmp .eq 9, 3) := by decide +kernel
theorem dX6_downOf_6 : decode cX6_downOf 6 = .ok (.iload_n 0, 1) := by decide +kernel
theorem dX6_downOf_7 : decode cX6_downOf 7 = .ok (.bipush 98, 2) := by decide +kernel
theorem dX6_downOf_9 : decode cX6_downOf 9 = .ok (.if_icmp .ne 7, 3) := by decide +kernel
theorem dX6_downOf_12 : decode cX6_downOf 12 = .ok (.iconst 1, 1) := by decide +kernel
theorem dX6_downOf_13 : decode cX6_downOf 13 = .ok (.goto 4, 3) := by decide +kernel
theorem dX6_downOf_16 : decode cX6_downOf 16 = .ok (.iconst (-1), 1) := by decide +kernel
theorem dX6_downOf_17 : decode cX6_downOf 17 = .ok (.ireturn, 1) := by decide +kernel
theorem dX7_init_0 : decode cX7_init 0 = .ok (.aload_n 0, 1) := by decide +kernel
theorem dX7_init_1 : decode cX7_init 1 = .ok (.invokespecial 1, 3) := by decide +kernel
theorem dX7_init_4 : decode cX7_init 4 = .ok (.aload_n 0, 1) := by decide +kernel
theorem dX7_init_5 : decode cX7_init 5 = .ok (.new 7, 3) := by decide +kernel
theorem dX7_init_8 : decode cX7_init 8 = .ok (.dup, 1) := by decide +kernel
theorem dX7_init_9 : decode cX7_init 9 = .ok (.invokespecial 9, 3) := by decide +kernel
theorem dX7_init_12 : decode cX7_init 12 = .ok (.putfield 10, 3) := by decide +kernel
theorem dX7_init_15 : decode cX7_init 15 = .ok (.aload_n 0, 1) := by decide +kernel
theorem dX7_init_16 : decode cX7_init 16 = .ok (.getfield 10, 3) := by decide +kernel
theorem dX7_init_19 : decode cX7_init 19 = .ok (.iload_n 1, 1) := by decide +kernel
theorem dX7_init_20 : decode cX7_init 20 = .ok (.iconst 1, 1) := by decide +kernel
theorem dX7_init_21 : decode cX7_init 21 = .ok (.invokestatic 16, 3) := by decide +kernel
theorem dX7_init_24 : decode cX7_init 24 = .ok (.bipush 8, 2) := by decide +kernel
theorem dX7_init_26 : decode cX7_init 26 = .ok (.invokestatic 22, 3) := by decide +kernel
theorem dX7_init_29 : decode cX7_init 29 = .ok (.iload_n 2, 1) := by decide +kernel
theorem dX7_init_30 : decode cX7_init 30 = .ok (.iconst 1, 1) := by decide +kernel
theorem dX7_init_31 : decode cX7_init 31 = .ok (.invokestatic 16, 3) := by decide +kernel
theorem dX7_init_34 : decode cX7_init 34 = .ok (.bipush 8, 2) := by decide +kernel
theorem dX7_init_36 : decode cX7_init 36 = .ok (.invokestatic 22, 3) := by decide +kernel
theorem dX7_init_39 : decode cX7_init 39 = .ok (.invokevirtual 25, 3) := by decide +kernel
theorem dX7_init_42 : decode cX7_init 42 = .ok (.aload_n 0, 1) := by decide +kernel
theorem dX7_init_43 : decode cX7_init 43 = .ok (.new 7, 3) := by decide +kernel
theorem dX7_init_46 : decode cX7_init 46 = .ok (.dup, 1) := by decide +kernel
theorem dX7_init_47 : decode cX7_init 47 = .ok (.invokespecial 9, 3) := by decide +kernel
theorem dX7_init_50 : decode cX7_init 50 = .ok (.putfield 29, 3) := by decide +kernel
theorem dX7_init_53 : decode cX7_init 53 = .ok (.aload_n 0, 1) := by decide +kernel
theorem dX7_init_54 : decode cX7_init 54 = .ok (.sipush 128, 3) := by decide +kernel
theorem dX7_init_57 : decode cX7_init 57 = .ok (.newarray .int, 2) := by decide +kernel
theorem dX7_init_59 : decode cX7_init 59 = .ok (.putfield 32, 3) := by decide +kernel
theorem dX7_init_62 : decode cX7_init 62 = .ok (.aload_n 0, 1) := by decide +kernel
theorem dX7_init_63 : decode cX7_init 63 = .ok (.bipush 8, 2) := by decide +kernel
theorem dX7_init_65 : decode cX7_init 65 = .ok (.anewarray 7, 3) := by decide +kernel
theorem dX7_init_68 : decode cX7_init 68 = .ok (.putfield 36, 3) := by decide +kernel
theorem dX7_init_71 : decode cX7_init 71 = .ok (.aload_n 0, 1) := by decide +kernel
theorem dX7_init_72 : decode cX7_init 72 = .ok (.new 40, 3) := by decide +kernel
theorem dX7_init_75 : decode cX7_init 75 = .ok (.dup, 1) := by decide +kernel
theorem dX7_init_76 : decode cX7_init 76 = .ok (.invokespecial 42, 3) := by decide +kernel
theorem dX7_init_79 : decode cX7_init 79 = .ok (.putfield 43, 3) := by decide +kernel
theorem dX7_init_82 : decode cX7_init 82 = .ok (.aload_n 0, 1) := by decide +kernel
theorem dX7_init_83 : decode cX7_init 83 = .ok (.new 47, 3) := by decide +kernel
theorem dX7_init_86 : decode cX7_init 86 = .ok (.dup, 1) := by decide +kernel
theorem dX7_init_87 : decode cX7_init 87 = .ok (.invokespecial 49, 3) := by decide +kernel
theorem dX7_init_90 : decode cX7_init 90 = .ok (.putfield 50, 3) := by decide +kernel
theorem dX7_init_93 : decode cX7_init 93 = .ok (.aload_n 0, 1) := by decide +kernel
theorem dX7_init_94 : decode cX7_init 94 = .ok (.new 54, 3) := by decide +kernel
theorem dX7_init_97 : decode cX7_init 97 = .ok (.dup, 1) := by decide +kernel
theorem dX7_init_98 : decode cX7_init 98 = .ok (.invokespecial 56, 3) := by decide +kernel
theorem dX7_init_101 : decode cX7_init 101 = .ok (.putfield 57, 3) := by decide +kernel
theorem dX7_init_104 : decode cX7_init 104 = .ok (.aload_n 0, 1) := by decide +kernel
theorem dX7_init_105 : decode cX7_init 105 = .ok (.new 61, 3) := by decide +kernel
theorem dX7_init_108 : decode cX7_init 108 = .ok (.dup, 1) := by decide +kernel
theorem dX7_init_109 : decode cX7_init 109 = .ok (.aload_n 0, 1) := by decide +kernel
theorem dX7_init_110 : decode cX7_init 110 = .ok (.getfield 57, 3) := by decide +kernel
theorem dX7_init_113 : decode cX7_init 113 = .ok (.aload_n 0, 1) := by decide +kernel
theorem dX7_init_114 : decode cX7_init 114 = .ok (.getfield 36, 3) := by decide +kernel
theorem dX7_init_117 : decode cX7_init 117 = .ok (.invokespecial 63, 3) := by decide +kernel
theorem dX7_init_120 : decode cX7_init 120 = .ok (.putfield 66, 3) := by decide +kernel
theorem dX7_init_123 : decode cX7_init 123 = .ok (.aload_n 0, 1) := by decide +kernel
theorem dX7_init_124 : decode cX7_init 124 = .ok (.new 70, 3) := by decide +kernel
theorem dX7_init_127 : decode cX7_init 127 = .ok (.dup, 1) := by decide +kernel
theorem dX7_init_128 : decode cX7_init 128 = .ok (.aload_n 0, 1) := by decide +kernel
theorem dX7_init_129 : decode cX7_init 129 = .ok (.getfield 57, 3) := by decide +kernel
theorem dX7_init_132 : decode cX7_init 132 = .ok (.invokespecial 72, 3) := by decide +kernel
theorem dX7_init_135 : decode cX7_init 135 = .ok (.putfield 75, 3) := by decide +kernel
theorem dX7_init_138 : decode cX7_init 138 = .ok (.aload_n 0, 1) := by decide +kernel
theorem dX7_init_139 : decode cX7_init 139 = .ok (.iconst 0, 1) := by decide +kernel
theorem dX7_init_140 : decode cX7_init 140 = .ok (.putfield 79, 3) := by decide +kernel
theorem dX7_init_143 : decode cX7_init 143 = .ok (.aload_n 0, 1) := by decide +kernel
theorem dX7_init_144 : decode cX7_init 144 = .ok (.iconst 0, 1) := by decide +kernel
theorem dX7_init_145 : decode cX7_init 145 = .ok (.putfield 83, 3) := by decide +kernel
theorem dX7_init_148 : decode cX7_init 148 = .ok (.return_, 1) := by decide +kernel
theorem dX7_set_0 : decode cX7_set 0 = .ok (.aload_n 0, 1) := by decide +kernel
theorem dX7_set_1 : decode cX7_set 1 = .ok (.getfield 10, 3) := by decide +kernel
theorem dX7_set_4 : decode cX7_set 4 = .ok (.iload_n 1, 1) := by decide +kernel
theorem dX7_set_5 : decode cX7_set 5 = .ok (.iload_n 2, 1) := by decide +kernel
theorem dX7_set_6 : decode cX7_set 6 = .ok (.invokevirtual 86, 3) := by decide +kernel
theorem dX7_set_9 : decode cX7_set 9 = .ok (.ifCond .eq 12, 3) := by decide +kernel
theorem dX7_set_12 : decode cX7_set 12 = .ok (.iload_n 3, 1) := by decide +kernel
theorem dX7_set_13 : decode cX7_set 13 = .ok (.ifCond .lt 8, 3) := by decide +kernel
theorem dX7_set_16 : decode cX7_set 16 = .ok (.iload_n 3, 1) := by decide +kernel
theorem dX7_set_17 : decode cX7_set 17 = .ok (.iconst 2, 1) := by decide +kernel
theorem dX7_set_18 : decode cX7_set 18 = .ok (.if_icmp .le 5, 3) := by decide +kernel
theorem dX7_set_21 : decode cX7_set 21 = .ok (.iconst 0, 1) := by decide +kernel
theorem dX7_set_22 : decode cX7_set 22 = .ok (.ireturn, 1) := by decide +kernel
theorem dX7_set_23 : decode cX7_set 23 = .ok (.aload_n 0, 1) := by decide +kernel
theorem dX7_set_24 : decode cX7_set 24 = .ok (.getfield 10, 3) := by decide +kernel
theorem dX7_set_27 : decode cX7_set 27 = .ok (.iload_n 1, 1) := by decide +kernel
theorem dX7_set_28 : decode cX7_set 28 = .ok (.iload_n 2, 1) := by decide +kernel
theorem dX7_set_29 : decode cX7_set 29 = .ok (.iload_n 3, 1) := by decide +kernel
theorem dX7_set_30 : decode cX7_set 30 = .ok (.invokevirtual 90, 3) := by decide +kernel
theorem dX7_set_33 : decode cX7_set 33 = .ok (.aload_n 0, 1) := by decide +kernel
theorem dX7_set_34 : decode cX7_set 34 = .ok (.invokevirtual 94, 3) := by decide +kernel
theorem dX7_set_37 : decode cX7_set 37 = .ok (.iconst 1, 1) := by decide +kernel
theorem dX7_set_38 : decode cX7_set 38 = .ok (.ireturn, 1) := by decide +kernel
theorem dX7_mirror_0 : decode cX7_mirror 0 = .ok (.aload_n 0, 1) := by decide +kernel
theorem dX7_mirror_1 : decode cX7_mirror 1 = .ok (.getfield 10, 3) := by decide +kernel
theorem dX7_mirror_4 : decode cX7_mirror 4 = .ok (.iload_n 1, 1) := by decide +kernel
theorem dX7_mirror_5 : decode cX7_mirror 5 = .ok (.iload_n 2, 1) := by decide +kernel
theorem dX7_mirror_6 : decode cX7_mirror 6 = .ok (.invokevirtual 86, 3) := by decide +kernel
theorem dX7_mirror_9 : decode cX7_mirror 9 = .ok (.ifCond .eq 15, 3) := by decide +kernel
theorem dX7_mirror_12 : decode cX7_mirror 12 = .ok (.aload_n 0, 1) := by decide +kernel
theorem dX7_mirror_13 : decode cX7_mirror 13 = .ok (.getfield 10, 3) := by decide +kernel
theorem dX7_mirror_16 : decode cX7_mirror 16 = .ok (.iload_n 1, 1) := by decide +kernel
theorem dX7_mirror_17 : decode cX7_mirror 17 = .ok (.iload_n 2, 1) := by decide +kernel
theorem dX7_mirror_18 : decode cX7_mirror 18 = .ok (.invokevirtual 97, 3) := by decide +kernel
theorem dX7_mirror_21 : decode cX7_mirror 21 = .ok (.goto 4, 3) := by decide +kernel
theorem dX7_mirror_24 : decode cX7_mirror 24 = .ok (.iconst (-1), 1) := by decide +kernel
theorem dX7_mirror_25 : decode cX7_mirror 25 = .ok (.ireturn, 1) := by decide +kernel
theorem dX7_pin_0 : decode cX7_pin 0 = .ok (.aload_n 0, 1) := by decide +kernel
theorem dX7_pin_1 : decode cX7_pin 1 = .ok (.getfield 10, 3) := by decide +kernel
theorem dX7_pin_4 : decode cX7_pin 4 = .ok (.iload_n 1, 1) := by decide +kernel
theorem dX7_pin_5 : decode cX7_pin 5 = .ok (.iload_n 2, 1) := by decide +kernel
theorem dX7_pin_6 : decode cX7_pin 6 = .ok (.invokevirtual 86, 3) := by decide +kernel
theorem dX7_pin_9 : decode cX7_pin 9 = .ok (.ifCond .ne 5, 3) := by decide +kernel
theorem dX7_pin_12 : decode cX7_pin 12 = .ok (.iconst 0, 1) := by decide +kernel
theorem dX7_pin_13 : decode cX7_pin 13 = .ok (.ireturn, 1) := by decide +kernel
theorem dX7_pin_14 : decode cX7_pin 14 = .ok (.aload_n 0, 1) := by decide +kernel
theorem dX7_pin_15 : decode cX7_pin 15 = .ok (.getfield 32, 3) := by decide +kernel
theorem dX7_pin_18 : decode cX7_pin 18 = .ok (.iload_n 1, 1) := by decide +kernel
theorem dX7_pin_19 : decode cX7_pin 19 = .ok (.iload_n 2, 1) := by decide +kernel
theorem dX7_pin_20 : decode cX7_pin 20 = .ok (.invokestatic 100, 3) := by decide +kernel
theorem dX7_pin_23 : decode cX7_pin 23 = .ok (.iload_n 3, 1) := by decide +kernel
theorem dX7_pin_24 : decode cX7_pin 24 = .ok (.ifCond .eq 7, 3) := by decide +kernel
theorem dX7_pin_27 : decode cX7_pin 27 = .ok (.iconst 1, 1) := by decide +kernel
theorem dX7_pin_28 : decode cX7_pin 28 = .ok (.goto 4, 3) := by decide +kernel
theorem dX7_pin_31 : decode cX7_pin 31 = .ok (.iconst 0, 1) := by decide +kernel
theorem dX7_pin_32 : decode cX7_pin 32 = .ok (.iastore, 1) := by decide +kernel
theorem dX7_pin_33 : decode cX7_pin 33 = .ok (.aload_n 0, 1) := by decide +kernel
theorem dX7_pin_34 : decode cX7_pin 34 = .ok (.iconst 0, 1) := by decide +kernel
theorem dX7_pin_35 : decode cX7_pin 35 = .ok (.putfield 83, 3) := by decide +kernel
theorem dX7_pin_38 : decode cX7_pin 38 = .ok (.iconst 1, 1) := by decide +kernel
theorem dX7_pin_39 : decode cX7_pin 39 = .ok (.ireturn, 1) := by decide +kernel
theorem dX7_lines_0 : decode cX7_lines 0 = .ok (.aload_n 0, 1) := by decide +kernel
theorem dX7_lines_1 : decode cX7_lines 1 = .ok (.invokevirtual 103, 3) := by decide +kernel
theorem dX7_lines_4 : decode cX7_lines 4 = .ok (.aload_n 0, 1) := by decide +kernel
theorem dX7_lines_5 : decode cX7_lines 5 = .ok (.getfield 43, 3) := by decide +kernel
theorem dX7_lines_8 : decode cX7_lines 8 = .ok (.getfield 106, 3) := by decide +kernel
theorem dX7_lines_11 : decode cX7_lines 11 = .ok (.ireturn, 1) := by decide +kernel
theorem dX7_lineOf_0 : decode cX7_lineOf 0 = .ok (.aload_n 0, 1) := by decide +kernel
theorem dX7_lineOf_1 : decode cX7_lineOf 1 = .ok (.getfield 10, 3) := by decide +kernel
theorem dX7_lineOf_4 : decode cX7_lineOf 4 = .ok (.iload_n 1, 1) := by decide +kernel
theorem dX7_lineOf_5 : decode cX7_lineOf 5 = .ok (.invokevirtual 110, 3) := by decide +kernel
theorem dX7_lineOf_8 : decode cX7_lineOf 8 = .ok (.ifCond .ne 5, 3) := by decide +kernel
theorem dX7_lineOf_11 : decode cX7_lineOf 11 = .ok (.iconst (-1), 1) := by decide +kernel
theorem dX7_lineOf_12 : decode cX7_lineOf 12 = .ok (.ireturn, 1) := by decide +kernel
theorem dX7_lineOf_13 : decode cX7_lineOf 13 = .ok (.aload_n 0, 1) := by decide +kernel
theorem dX7_lineOf_14 : decode cX7_lineOf 14 = .ok (.invokevirtual 103, 3) := by decide +kernel
theorem dX7_lineOf_17 : decode cX7_lineOf 17 = .ok (.aload_n 0, 1) := by decide +kernel
theorem dX7_lineOf_18 : decode cX7_lineOf 18 = .ok (.getfield 43, 3) := by decide +kernel
theorem dX7_lineOf_21 : decode cX7_lineOf 21 = .ok (.iload_n 1, 1) := by decide +kernel
theorem dX7_lineOf_22 : decode cX7_lineOf 22 = .ok (.invokevirtual 114, 3) := by decide +kernel
theorem dX7_lineOf_25 : decode cX7_lineOf 25 = .ok (.ireturn, 1) := by decide +kernel
theorem dX7_line_0 : decode cX7_line 0 = .ok (.aload_n 0, 1) := by decide +kernel
theorem dX7_line_1 : decode cX7_line 1 = .ok (.invokevirtual 103, 3) := by decide +kernel
theorem dX7_line_4 : decode cX7_line 4 = .ok (.aload_n 0, 1) := by decide +kernel
theorem dX7_line_5 : decode cX7_line 5 = .ok (.getfield 43, 3) := by decide +kernel
theorem dX7_line_8 : decode cX7_line 8 = .ok (.iload_n 1, 1) := by decide +kernel
theorem dX7_line_9 : decode cX7_line 9 = .ok (.invokevirtual 118, 3) := by decide +kernel
theorem dX7_line_12 : decode cX7_line 12 = .ok (.ifCond .ne 5, 3) := by decide +kernel
theorem dX7_line_15 : decode cX7_line 15 = .ok (.iconst (-1), 1) := by decide +kernel
theorem dX7_line_16 : decode cX7_line 16 = .ok (.ireturn, 1) := by decide +kernel
theorem dX7_line_17 : decode cX7_line 17 = .ok (.iload_n 2, 1) := by decide +kernel
theorem dX7_line_18 : decode cX7_line 18 = .ok (.tableswitch 73 0 4 #[34, 43, 53, 60, 67], 34) := by decide +kernel
theorem dX7_line_52 : decode cX7_line 52 = .ok (.aload_n 0, 1) := by decide +kernel
theorem dX7_line_53 : decode cX7_line 53 = .ok (.getfield 43, 3) := by decide +kernel
theorem dX7_line_56 : decode cX7_line 56 = .ok (.iload_n 1, 1) := by decide +kernel
theorem dX7_line_57 : decode cX7_line 57 = .ok (.invokevirtual 121, 3) := by decide +kernel
theorem dX7_line_60 : decode cX7_line 60 = .ok (.ireturn, 1) := by decide +kernel
theorem dX7_line_61 : decode cX7_line 61 = .ok (.aload_n 0, 1) := by decide +kernel
theorem dX7_line_62 : decode cX7_line 62 = .ok (.getfield 43, 3) := by decide +kernel
theorem dX7_line_65 : decode cX7_line 65 = .ok (.iload_n 1, 1) := by decide +kernel
theorem dX7_line_66 : decode cX7_line 66 = .ok (.iconst 0, 1) := by decide +kernel
theorem dX7_line_67 : decode cX7_line 67 = .ok (.invokevirtual 124, 3) := by decide +kernel
theorem dX7_line_70 : decode cX7_line 70 = .ok (.ireturn, 1) := by decide +kernel
theorem dX7_line_71 : decode cX7_line 71 = .ok (.aload_n 0, 1) := by decide +kernel
theorem dX7_line_72 : decode cX7_line 72 = .ok (.iload_n 1, 1) := by decide +kernel
theorem dX7_line_73 : decode cX7_line 73 = .ok (.iconst 4, 1) := by decide +kernel
theorem dX7_line_74 : decode cX7_line 74 = .ok (.invokevirtual 127, 3) := by decide +kernel
theorem dX7_line_77 : decode cX7_line 77 = .ok (.ireturn, 1) := by decide +kernel
theorem dX7_line_78 : decode cX7_line 78 = .ok (.aload_n 0, 1) := by decide +kernel
theorem dX7_line_79 : decode cX7_line 79 = .ok (.iload_n 1, 1) := by decide +kernel
theorem dX7_line_80 : decode cX7_line 80 = .ok (.iconst 1, 1) := by decide +kernel
theorem dX7_line_81 : decode cX7_line 81 = .ok (.invokevirtual 127, 3) := by decide +kernel
theorem dX7_line_84 : decode cX7_line 84 = .ok (.ireturn, 1) := by decide +kernel
theorem dX7_line_85 : decode cX7_line 85 = .ok (.aload_n 0, 1) := by decide +kernel
theorem dX7_line_86 : decode cX7_line 86 = .ok (.iload_n 1, 1) := by decide +kernel
theorem dX7_line_87 : decode cX7_line 87 = .ok (.invokevirtual 130, 3) := by decide +kernel
theorem dX7_line_90 : decode cX7_line 90 = .ok (.ireturn, 1) := by decide +kernel
theorem dX7_line_91 : decode cX7_line 91 = .ok (.iconst (-1), 1) := by decide +kernel
theorem dX7_line_92 : decode cX7_line 92 = .ok (.ireturn, 1) := by decide +kernel
theorem dX7_walk_0 : decode cX7_walk 0 = .ok (.aload_n 0, 1) := by decide +kernel
theorem dX7_walk_1 : decode cX7_walk 1 = .ok (.invokevirtual 103, 3) := by decide +kernel
theorem dX7_walk_4 : decode cX7_walk 4 = .ok (.aload_n 0, 1) := by decide +kernel
theorem dX7_walk_5 : decode cX7_walk 5 = .ok (.getfield 43, 3) := by decide +kernel
theorem dX7_walk_8 : decode cX7_walk 8 = .ok (.iload_n 1, 1) := by decide +kernel
theorem dX7_walk_9 : decode cX7_walk 9 = .ok (.iload_n 2, 1) := by decide +kernel
theorem dX7_walk_10 : decode cX7_walk 10 = .ok (.invokevirtual 124, 3) := by decide +kernel
theorem dX7_walk_13 : decode cX7_walk 13 = .ok (.ireturn, 1) := by decide +kernel
theorem dX7_holds_0 : decode cX7_holds 0 = .ok (.aload_n 0, 1) := by decide +kernel
theorem dX7_holds_1 : decode cX7_holds 1 = .ok (.invokevirtual 103, 3) := by decide +kernel
theorem dX7_holds_4 : decode cX7_holds 4 = .ok (.aload_n 0, 1) := by decide +kernel
theorem dX7_holds_5 : decode cX7_holds 5 = .ok (.getfield 43, 3) := by decide +kernel
theorem dX7_holds_8 : decode cX7_holds 8 = .ok (.iload_n 1, 1) := by decide +kernel
theorem dX7_holds_9 : decode cX7_holds 9 = .ok (.invokevirtual 118, 3) := by decide +kernel
theorem dX7_holds_12 : decode cX7_holds 12 = .ok (.ifCond .eq 33, 3) := by decide +kernel
theorem dX7_holds_15 : decode cX7_holds 15 = .ok (.iload_n 2, 1) := by decide +kernel
theorem dX7_holds_16 : decode cX7_holds 16 = .ok (.ifCond .lt 29, 3) := by decide +kernel
theorem dX7_holds_19 : decode cX7_holds 19 = .ok (.iload_n 2, 1) := by decide +kernel
theorem dX7_holds_20 : decode cX7_holds 20 = .ok (.aload_n 0, 1) := by decide +kernel
theorem dX7_holds_21 : decode cX7_holds 21 = .ok (.getfield 10, 3) := by decide +kernel
theorem dX7_holds_24 : decode cX7_holds 24 = .ok (.getfield 133, 3) := by decide +kernel
theorem dX7_holds_27 : decode cX7_holds 27 = .ok (.if_icmp .ge 18, 3) := by decide +kernel
theorem dX7_holds_30 : decode cX7_holds 30 = .ok (.iload_n 3, 1) := by decide +kernel
theorem dX7_holds_31 : decode cX7_holds 31 = .ok (.ifCond .lt 14, 3) := by decide +kernel
theorem dX7_holds_34 : decode cX7_holds 34 = .ok (.iload_n 3, 1) := by decide +kernel
theorem dX7_holds_35 : decode cX7_holds 35 = .ok (.aload_n 0, 1) := by decide +kernel
theorem dX7_holds_36 : decode cX7_holds 36 = .ok (.getfield 10, 3) := by decide +kernel
theorem dX7_holds_39 : decode cX7_holds 39 = .ok (.getfield 136, 3) := by decide +kernel
theorem dX7_holds_42 : decode cX7_holds 42 = .ok (.if_icmp .lt 5, 3) := by decide +kernel
theorem dX7_holds_45 : decode cX7_holds 45 = .ok (.iconst (-1), 1) := by decide +kernel
theorem dX7_holds_46 : decode cX7_holds 46 = .ok (.ireturn, 1) := by decide +kernel
theorem dX7_holds_47 : decode cX7_holds 47 = .ok (.aload_n 0, 1) := by decide +kernel
theorem dX7_holds_48 : decode cX7_holds 48 = .ok (.iload_n 1, 1) := by decide +kernel
theorem dX7_holds_49 : decode cX7_holds 49 = .ok (.iconst 2, 1) := by decide +kernel
theorem dX7_holds_50 : decode cX7_holds 50 = .ok (.iload_n 2, 1) := by decide +kernel
theorem dX7_holds_51 : decode cX7_holds 51 = .ok (.imul, 1) := by decide +kernel
theorem dX7_holds_52 : decode cX7_holds 52 = .ok (.iconst 1, 1) := by decide +kernel
theorem dX7_holds_53 : decode cX7_holds 53 = .ok (.iadd, 1) := by decide +kernel
theorem dX7_holds_54 : decode cX7_holds 54 = .ok (.iconst 2, 1) := by decide +kernel
theorem dX7_holds_55 : decode cX7_holds 55 = .ok (.iload_n 3, 1) := by decide +kernel
theorem dX7_holds_56 : decode cX7_holds 56 = .ok (.imul, 1) := by decide +kernel
theorem dX7_holds_57 : decode cX7_holds 57 = .ok (.iconst 1, 1) := by decide +kernel
theorem dX7_holds_58 : decode cX7_holds 58 = .ok (.iadd, 1) := by decide +kernel
theorem dX7_holds_59 : decode cX7_holds 59 = .ok (.invokevirtual 139, 3) := by decide +kernel
theorem dX7_holds_62 : decode cX7_holds 62 = .ok (.ireturn, 1) := by decide +kernel
theorem dX7_colour_0 : decode cX7_colour 0 = .ok (.aload_n 0, 1) := by decide +kernel
theorem dX7_colour_1 : decode cX7_colour 1 = .ok (.getfield 10, 3) := by decide +kernel
theorem dX7_colour_4 : decode cX7_colour 4 = .ok (.iload_n 1, 1) := by decide +kernel
theorem dX7_colour_5 : decode cX7_colour 5 = .ok (.invokevirtual 110, 3) := by decide +kernel
theorem dX7_colour_8 : decode cX7_colour 8 = .ok (.ifCond .ne 5, 3) := by decide +kernel
theorem dX7_colour_11 : decode cX7_colour 11 = .ok (.iconst (-1), 1) := by decide +kernel
theorem dX7_colour_12 : decode cX7_colour 12 = .ok (.ireturn, 1) := by decide +kernel
theorem dX7_colour_13 : decode cX7_colour 13 = .ok (.aload_n 0, 1) := by decide +kernel
theorem dX7_colour_14 : decode cX7_colour 14 = .ok (.invokevirtual 103, 3) := by decide +kernel
theorem dX7_colour_17 : decode cX7_colour 17 = .ok (.aload_n 0, 1) := by decide +kernel
theorem dX7_colour_18 : decode cX7_colour 18 = .ok (.getfield 43, 3) := by decide +kernel
theorem dX7_colour_21 : decode cX7_colour 21 = .ok (.iload_n 1, 1) := by decide +kernel
theorem dX7_colour_22 : decode cX7_colour 22 = .ok (.invokevirtual 143, 3) := by decide +kernel
theorem dX7_colour_25 : decode cX7_colour 25 = .ok (.iconst 1, 1) := by decide +kernel
theorem dX7_colour_26 : decode cX7_colour 26 = .ok (.iand, 1) := by decide +kernel
theorem dX7_colour_27 : decode cX7_colour 27 = .ok (.ireturn, 1) := by decide +kernel
theorem dX7_coloured_0 : decode cX7_coloured 0 = .ok (.iconst 2, 1) := by decide +kernel
theorem dX7_coloured_1 : decode cX7_coloured 1 = .ok (.aload_n 0, 1) := by decide +kernel
theorem dX7_coloured_2 : decode cX7_coloured 2 = .ok (.getfield 10, 3) := by decide +kernel
theorem dX7_coloured_5 : decode cX7_coloured 5 = .ok (.getfield 133, 3) := by decide +kernel
theorem dX7_coloured_8 : decode cX7_coloured 8 = .ok (.imul, 1) := by decide +kernel
theorem dX7_coloured_9 : decode cX7_coloured 9 = .ok (.istore_n 3, 1) := by decide +kernel
theorem dX7_coloured_10 : decode cX7_coloured 10 = .ok (.iconst 2, 1) := by decide +kernel
theorem dX7_coloured_11 : decode cX7_coloured 11 = .ok (.aload_n 0, 1) := by decide +kernel
theorem dX7_coloured_12 : decode cX7_coloured 12 = .ok (.getfield 10, 3) := by decide +kernel
theorem dX7_coloured_15 : decode cX7_coloured 15 = .ok (.getfield 136, 3) := by decide +kernel
theorem dX7_coloured_18 : decode cX7_coloured 18 = .ok (.imul, 1) := by decide +kernel
theorem dX7_coloured_19 : decode cX7_coloured 19 = .ok (.istore 4, 2) := by decide +kernel
theorem dX7_coloured_21 : decode cX7_coloured 21 = .ok (.iload_n 1, 1) := by decide +kernel
theorem dX7_coloured_22 : decode cX7_coloured 22 = .ok (.ifCond .lt 17, 3) := by decide +kernel
theorem dX7_coloured_25 : decode cX7_coloured 25 = .ok (.iload_n 1, 1) := by decide +kernel
theorem dX7_coloured_26 : decode cX7_coloured 26 = .ok (.iload_n 2, 1) := by decide +kernel
theorem dX7_coloured_27 : decode cX7_coloured 27 = .ok (.ifCond .eq 7, 3) := by decide +kernel
theorem dX7_coloured_30 : decode cX7_coloured 30 = .ok (.iload_n 3, 1) := by decide +kernel
theorem dX7_coloured_31 : decode cX7_coloured 31 = .ok (.goto 5, 3) := by decide +kernel
theorem dX7_coloured_34 : decode cX7_coloured 34 = .ok (.iload 4, 2) := by decide +kernel
theorem dX7_coloured_36 : decode cX7_coloured 36 = .ok (.if_icmp .lt 5, 3) := by decide +kernel
theorem dX7_coloured_39 : decode cX7_coloured 39 = .ok (.iconst (-1), 1) := by decide +kernel
theorem dX7_coloured_40 : decode cX7_coloured 40 = .ok (.ireturn, 1) := by decide +kernel
theorem dX7_coloured_41 : decode cX7_coloured 41 = .ok (.aload_n 0, 1) := by decide +kernel
theorem dX7_coloured_42 : decode cX7_coloured 42 = .ok (.invokevirtual 103, 3) := by decide +kernel
theorem dX7_coloured_45 : decode cX7_coloured 45 = .ok (.iload_n 2, 1) := by decide +kernel
theorem dX7_coloured_46 : decode cX7_coloured 46 = .ok (.ifCond .eq 7, 3) := by decide +kernel
theorem dX7_coloured_49 : decode cX7_coloured 49 = .ok (.iload_n 1, 1) := by decide +kernel
theorem dX7_coloured_50 : decode cX7_coloured 50 = .ok (.goto 6, 3) := by decide +kernel
theorem dX7_coloured_53 : decode cX7_coloured 53 = .ok (.iload_n 3, 1) := by decide +kernel
theorem dX7_coloured_54 : decode cX7_coloured 54 = .ok (.iload_n 1, 1) := by decide +kernel
theorem dX7_coloured_55 : decode cX7_coloured 55 = .ok (.imul, 1) := by decide +kernel
theorem dX7_coloured_56 : decode cX7_coloured 56 = .ok (.istore 5, 2) := by decide +kernel
theorem dX7_coloured_58 : decode cX7_coloured 58 = .ok (.iload_n 2, 1) := by decide +kernel
theorem dX7_coloured_59 : decode cX7_coloured 59 = .ok (.ifCond .eq 7, 3) := by decide +kernel
theorem dX7_coloured_62 : decode cX7_coloured 62 = .ok (.iload_n 3, 1) := by decide +kernel
theorem dX7_coloured_63 : decode cX7_coloured 63 = .ok (.goto 4, 3) := by decide +kernel
theorem dX7_coloured_66 : decode cX7_coloured 66 = .ok (.iconst 1, 1) := by decide +kernel
theorem dX7_coloured_67 : decode cX7_coloured 67 = .ok (.istore 6, 2) := by decide +kernel
theorem dX7_coloured_69 : decode cX7_coloured 69 = .ok (.iload_n 2, 1) := by decide +kernel
theorem dX7_coloured_70 : decode cX7_coloured 70 = .ok (.ifCond .eq 8, 3) := by decide +kernel
theorem dX7_coloured_73 : decode cX7_coloured 73 = .ok (.iload 4, 2) := by decide +kernel
theorem dX7_coloured_75 : decode cX7_coloured 75 = .ok (.goto 4, 3) := by decide +kernel
theorem dX7_coloured_78 : decode cX7_coloured 78 = .ok (.iload_n 3, 1) := by decide +kernel
theorem dX7_coloured_79 : decode cX7_coloured 79 = .ok (.istore 7, 2) := by decide +kernel
theorem dX7_coloured_81 : decode cX7_coloured 81 = .ok (.iconst 0, 1) := by decide +kernel
theorem dX7_coloured_82 : decode cX7_coloured 82 = .ok (.istore 8, 2) := by decide +kernel
theorem dX7_coloured_84 : decode cX7_coloured 84 = .ok (.iconst 0, 1) := by decide +kernel
theorem dX7_coloured_85 : decode cX7_coloured 85 = .ok (.istore 9, 2) := by decide +kernel
theorem dX7_coloured_87 : decode cX7_coloured 87 = .ok (.iload 9, 2) := by decide +kernel
theorem dX7_coloured_89 : decode cX7_coloured 89 = .ok (.iload 7, 2) := by decide +kernel
theorem dX7_coloured_91 : decode cX7_coloured 91 = .ok (.if_icmp .ge 31, 3) := by decide +kernel
theorem dX7_coloured_94 : decode cX7_coloured 94 = .ok (.iload 8, 2) := by decide +kernel
theorem dX7_coloured_96 : decode cX7_coloured 96 = .ok (.aload_n 0, 1) := by decide +kernel
theorem dX7_coloured_97 : decode cX7_coloured 97 = .ok (.getfield 43, 3) := by decide +kernel
theorem dX7_coloured_100 : decode cX7_coloured 100 = .ok (.iload 5, 2) := by decide +kernel
theorem dX7_coloured_102 : decode cX7_coloured 102 = .ok (.iload 6, 2) := by decide +kernel
theorem dX7_coloured_104 : decode cX7_coloured 104 = .ok (.iload 9, 2) := by decide +kernel
theorem dX7_coloured_106 : decode cX7_coloured 106 = .ok (.imul, 1) := by decide +kernel
theorem dX7_coloured_107 : decode cX7_coloured 107 = .ok (.iadd, 1) := by decide +kernel
theorem dX7_coloured_108 : decode cX7_coloured 108 = .ok (.invokevirtual 143, 3) := by decide +kernel
theorem dX7_coloured_111 : decode cX7_coloured 111 = .ok (.iconst 1, 1) := by decide +kernel
theorem dX7_coloured_112 : decode cX7_coloured 112 = .ok (.iand, 1) := by decide +kernel
theorem dX7_coloured_113 : decode cX7_coloured 113 = .ok (.iadd, 1) := by decide +kernel
theorem dX7_coloured_114 : decode cX7_coloured 114 = .ok (.istore 8, 2) := by decide +kernel
theorem dX7_coloured_116 : decode cX7_coloured 116 = .ok (.iinc 9 1, 3) := by decide +kernel
theorem dX7_coloured_119 : decode cX7_coloured 119 = .ok (.goto (-32), 3) := by decide +kernel
theorem dX7_coloured_122 : decode cX7_coloured 122 = .ok (.iload 8, 2) := by decide +kernel
theorem dX7_coloured_124 : decode cX7_coloured 124 = .ok (.ireturn, 1) := by decide +kernel
theorem dX7_joined_0 : decode cX7_joined 0 = .ok (.aload_n 0, 1) := by decide +kernel
theorem dX7_joined_1 : decode cX7_joined 1 = .ok (.invokevirtual 146, 3) := by decide +kernel
theorem dX7_joined_4 : decode cX7_joined 4 = .ok (.iload_n 1, 1) := by decide +kernel
theorem dX7_joined_5 : decode cX7_joined 5 = .ok (.lookupswitch 51 #[(0, 27), (1, 43)], 27) := by decide +kernel
theorem dX7_joined_32 : decode cX7_joined 32 = .ok (.aload_n 0, 1) := by decide +kernel
theorem dX7_joined_33 : decode cX7_joined 33 = .ok (.getfield 43, 3) := by decide +kernel
theorem dX7_joined_36 : decode cX7_joined 36 = .ok (.getfield 106, 3) := by decide +kernel
theorem dX7_joined_39 : decode cX7_joined 39 = .ok (.aload_n 0, 1) := by decide +kernel
theorem dX7_joined_40 : decode cX7_joined 40 = .ok (.getfield 50, 3) := by decide +kernel
theorem dX7_joined_43 : decode cX7_joined 43 = .ok (.getfield 149, 3) := by decide +kernel
theorem dX7_joined_46 : decode cX7_joined 46 = .ok (.isub, 1) := by decide +kernel
theorem dX7_joined_47 : decode cX7_joined 47 = .ok (.ireturn, 1) := by decide +kernel
theorem dX7_joined_48 : decode cX7_joined 48 = .ok (.aload_n 0, 1) := by decide +kernel
theorem dX7_joined_49 : decode cX7_joined 49 = .ok (.getfield 50, 3) := by decide +kernel
theorem dX7_joined_52 : decode cX7_joined 52 = .ok (.getfield 149, 3) := by decide +kernel
theorem dX7_joined_55 : decode cX7_joined 55 = .ok (.ireturn, 1) := by decide +kernel
theorem dX7_joined_56 : decode cX7_joined 56 = .ok (.iconst (-1), 1) := by decide +kernel
theorem dX7_joined_57 : decode cX7_joined 57 = .ok (.ireturn, 1) := by decide +kernel
theorem dX7_change_0 : decode cX7_change 0 = .ok (.aload_n 0, 1) := by decide +kernel
theorem dX7_change_1 : decode cX7_change 1 = .ok (.invokevirtual 146, 3) := by decide +kernel
theorem dX7_change_4 : decode cX7_change 4 = .ok (.iload_n 1, 1) := by decide +kernel
theorem dX7_change_5 : decode cX7_change 5 = .ok (.ifCond .lt 14, 3) := by decide +kernel
theorem dX7_change_8 : decode cX7_change 8 = .ok (.iload_n 1, 1) := by decide +kernel
theorem dX7_change_9 : decode cX7_change 9 = .ok (.aload_n 0, 1) := by decide +kernel
theorem dX7_change_10 : decode cX7_change 10 = .ok (.getfield 50, 3) := by decide +kernel
theorem dX7_change_13 : decode cX7_change 13 = .ok (.getfield 149, 3) := by decide +kernel
theorem dX7_change_16 : decode cX7_change 16 = .ok (.if_icmp .lt 5, 3) := by decide +kernel
theorem dX7_change_19 : decode cX7_change 19 = .ok (.iconst (-1), 1) := by decide +kernel
theorem dX7_change_20 : decode cX7_change 20 = .ok (.ireturn, 1) := by decide +kernel
theorem dX7_change_21 : decode cX7_change 21 = .ok (.aload_n 0, 1) := by decide +kernel
theorem dX7_change_22 : decode cX7_change 22 = .ok (.getfield 50, 3) := by decide +kernel
theorem dX7_change_25 : decode cX7_change 25 = .ok (.iload_n 1, 1) := by decide +kernel
theorem dX7_change_26 : decode cX7_change 26 = .ok (.invokevirtual 150, 3) := by decide +kernel
theorem dX7_change_29 : decode cX7_change 29 = .ok (.istore_n 3, 1) := by decide +kernel
theorem dX7_change_30 : decode cX7_change 30 = .ok (.aload_n 0, 1) := by decide +kernel
theorem dX7_change_31 : decode cX7_change 31 = .ok (.getfield 50, 3) := by decide +kernel
theorem dX7_change_34 : decode cX7_change 34 = .ok (.iload_n 1, 1) := by decide +kernel
theorem dX7_change_35 : decode cX7_change 35 = .ok (.invokevirtual 153, 3) := by decide +kernel
theorem dX7_change_38 : decode cX7_change 38 = .ok (.istore 4, 2) := by decide +kernel
theorem dX7_change_40 : decode cX7_change 40 = .ok (.iload_n 2, 1) := by decide +kernel
theorem dX7_change_41 : decode cX7_change 41 = .ok (.tableswitch 46 0 2 #[27, 29, 32], 27) := by decide +kernel
theorem dX7_change_68 : decode cX7_change 68 = .ok (.iload_n 3, 1) := by decide +kernel
theorem dX7_change_69 : decode cX7_change 69 = .ok (.ireturn, 1) := by decide +kernel
theorem dX7_change_70 : decode cX7_change 70 = .ok (.iload 4, 2) := by decide +kernel
theorem dX7_change_72 : decode cX7_change 72 = .ok (.ireturn, 1) := by decide +kernel
theorem dX7_change_73 : decode cX7_change 73 = .ok (.aload_n 0, 1) := by decide +kernel
theorem dX7_change_74 : decode cX7_change 74 = .ok (.getfield 10, 3) := by decide +kernel
theorem dX7_change_77 : decode cX7_change 77 = .ok (.iload_n 3, 1) := by decide +kernel
theorem dX7_change_78 : decode cX7_change 78 = .ok (.iload 4, 2) := by decide +kernel
theorem dX7_change_80 : decode cX7_change 80 = .ok (.invokevirtual 97, 3) := by decide +kernel
theorem dX7_change_83 : decode cX7_change 83 = .ok (.invokestatic 156, 3) := by decide +kernel
theorem dX7_change_86 : decode cX7_change 86 = .ok (.ireturn, 1) := by decide +kernel
theorem dX7_change_87 : decode cX7_change 87 = .ok (.iconst (-1), 1) := by decide +kernel
theorem dX7_change_88 : decode cX7_change 88 = .ok (.ireturn, 1) := by decide +kernel
theorem dX7_join_0 : decode cX7_join 0 = .ok (.aload_n 0, 1) := by decide +kernel
theorem dX7_join_1 : decode cX7_join 1 = .ok (.invokevirtual 146, 3) := by decide +kernel
theorem dX7_join_4 : decode cX7_join 4 = .ok (.aload_n 0, 1) := by decide +kernel
theorem dX7_join_5 : decode cX7_join 5 = .ok (.getfield 50, 3) := by decide +kernel
theorem dX7_join_8 : decode cX7_join 8 = .ok (.getfield 149, 3) := by decide +kernel
theorem dX7_join_11 : decode cX7_join 11 = .ok (.istore_n 1, 1) := by decide +kernel
theorem dX7_join_12 : decode cX7_join 12 = .ok (.iconst 0, 1) := by decide +kernel
theorem dX7_join_13 : decode cX7_join 13 = .ok (.istore_n 2, 1) := by decide +kernel
theorem dX7_join_14 : decode cX7_join 14 = .ok (.iload_n 2, 1) := by decide +kernel
theorem dX7_join_15 : decode cX7_join 15 = .ok (.iload_n 1, 1) := by decide +kernel
theorem dX7_join_16 : decode cX7_join 16 = .ok (.if_icmp .ge 51, 3) := by decide +kernel
theorem dX7_join_19 : decode cX7_join 19 = .ok (.aload_n 0, 1) := by decide +kernel
theorem dX7_join_20 : decode cX7_join 20 = .ok (.getfield 50, 3) := by decide +kernel
theorem dX7_join_23 : decode cX7_join 23 = .ok (.iload_n 2, 1) := by decide +kernel
theorem dX7_join_24 : decode cX7_join 24 = .ok (.invokevirtual 150, 3) := by decide +kernel
theorem dX7_join_27 : decode cX7_join 27 = .ok (.istore_n 3, 1) := by decide +kernel
theorem dX7_join_28 : decode cX7_join 28 = .ok (.aload_n 0, 1) := by decide +kernel
theorem dX7_join_29 : decode cX7_join 29 = .ok (.getfield 50, 3) := by decide +kernel
theorem dX7_join_32 : decode cX7_join 32 = .ok (.iload_n 2, 1) := by decide +kernel
theorem dX7_join_33 : decode cX7_join 33 = .ok (.invokevirtual 153, 3) := by decide +kernel
theorem dX7_join_36 : decode cX7_join 36 = .ok (.istore 4, 2) := by decide +kernel
theorem dX7_join_38 : decode cX7_join 38 = .ok (.aload_n 0, 1) := by decide +kernel
theorem dX7_join_39 : decode cX7_join 39 = .ok (.getfield 10, 3) := by decide +kernel
theorem dX7_join_42 : decode cX7_join 42 = .ok (.iload_n 3, 1) := by decide +kernel
theorem dX7_join_43 : decode cX7_join 43 = .ok (.iload 4, 2) := by decide +kernel
theorem dX7_join_45 : decode cX7_join 45 = .ok (.aload_n 0, 1) := by decide +kernel
theorem dX7_join_46 : decode cX7_join 46 = .ok (.getfield 10, 3) := by decide +kernel
theorem dX7_join_49 : decode cX7_join 49 = .ok (.iload_n 3, 1) := by decide +kernel
theorem dX7_join_50 : decode cX7_join 50 = .ok (.iload 4, 2) := by decide +kernel
theorem dX7_join_52 : decode cX7_join 52 = .ok (.invokevirtual 97, 3) := by decide +kernel
theorem dX7_join_55 : decode cX7_join 55 = .ok (.invokestatic 156, 3) := by decide +kernel
theorem dX7_join_58 : decode cX7_join 58 = .ok (.invokevirtual 90, 3) := by decide +kernel
theorem dX7_join_61 : decode cX7_join 61 = .ok (.iinc 2 1, 3) := by decide +kernel
theorem dX7_join_64 : decode cX7_join 64 = .ok (.goto (-50), 3) := by decide +kernel
theorem dX7_join_67 : decode cX7_join 67 = .ok (.aload_n 0, 1) := by decide +kernel
theorem dX7_join_68 : decode cX7_join 68 = .ok (.invokevirtual 94, 3) := by decide +kernel
theorem dX7_join_71 : decode cX7_join 71 = .ok (.iload_n 1, 1) := by decide +kernel
theorem dX7_join_72 : decode cX7_join 72 = .ok (.ireturn, 1) := by decide +kernel
theorem dX7_feed_0 : decode cX7_feed 0 = .ok (.aload_n 0, 1) := by decide +kernel
theorem dX7_feed_1 : decode cX7_feed 1 = .ok (.getfield 57, 3) := by decide +kernel
theorem dX7_feed_4 : decode cX7_feed 4 = .ok (.getfield 159, 3) := by decide +kernel
theorem dX7_feed_7 : decode cX7_feed 7 = .ok (.bipush 20, 2) := by decide +kernel
theorem dX7_feed_9 : decode cX7_feed 9 = .ok (.iadd, 1) := by decide +kernel
theorem dX7_feed_10 : decode cX7_feed 10 = .ok (.sipush 200, 3) := by decide +kernel
theorem dX7_feed_13 : decode cX7_feed 13 = .ok (.if_icmp .le 5, 3) := by decide +kernel
theorem dX7_feed_16 : decode cX7_feed 16 = .ok (.iconst (-1), 1) := by decide +kernel
theorem dX7_feed_17 : decode cX7_feed 17 = .ok (.ireturn, 1) := by decide +kernel
theorem dX7_feed_18 : decode cX7_feed 18 = .ok (.aload_n 0, 1) := by decide +kernel
theorem dX7_feed_19 : decode cX7_feed 19 = .ok (.getfield 57, 3) := by decide +kernel
theorem dX7_feed_22 : decode cX7_feed 22 = .ok (.iload_n 1, 1) := by decide +kernel
theorem dX7_feed_23 : decode cX7_feed 23 = .ok (.invokevirtual 162, 3) := by decide +kernel
theorem dX7_feed_26 : decode cX7_feed 26 = .ok (.aload_n 0, 1) := by decide +kernel
theorem dX7_feed_27 : decode cX7_feed 27 = .ok (.getfield 57, 3) := by decide +kernel
theorem dX7_feed_30 : decode cX7_feed 30 = .ok (.iload_n 2, 1) := by decide +kernel
theorem dX7_feed_31 : decode cX7_feed 31 = .ok (.invokevirtual 162, 3) := by decide +kernel
theorem dX7_feed_34 : decode cX7_feed 34 = .ok (.aload_n 0, 1) := by decide +kernel
theorem dX7_feed_35 : decode cX7_feed 35 = .ok (.getfield 57, 3) := by decide +kernel
theorem dX7_feed_38 : decode cX7_feed 38 = .ok (.iload_n 3, 1) := by decide +kernel
theorem dX7_feed_39 : decode cX7_feed 39 = .ok (.invokevirtual 162, 3) := by decide +kernel
theorem dX7_feed_42 : decode cX7_feed 42 = .ok (.aload_n 0, 1) := by decide +kernel
theorem dX7_feed_43 : decode cX7_feed 43 = .ok (.getfield 57, 3) := by decide +kernel
theorem dX7_feed_46 : decode cX7_feed 46 = .ok (.iload 4, 2) := by decide +kernel
theorem dX7_feed_48 : decode cX7_feed 48 = .ok (.invokevirtual 162, 3) := by decide +kernel
theorem dX7_feed_51 : decode cX7_feed 51 = .ok (.aload_n 0, 1) := by decide +kernel
theorem dX7_feed_52 : decode cX7_feed 52 = .ok (.getfield 57, 3) := by decide +kernel
theorem dX7_feed_55 : decode cX7_feed 55 = .ok (.iload 5, 2) := by decide +kernel
theorem dX7_feed_57 : decode cX7_feed 57 = .ok (.invokevirtual 162, 3) := by decide +kernel
theorem dX7_feed_60 : decode cX7_feed 60 = .ok (.aload_n 0, 1) := by decide +kernel
theorem dX7_feed_61 : decode cX7_feed 61 = .ok (.getfield 57, 3) := by decide +kernel
theorem dX7_feed_64 : decode cX7_feed 64 = .ok (.getfield 159, 3) := by decide +kernel
theorem dX7_feed_67 : decode cX7_feed 67 = .ok (.ireturn, 1) := by decide +kernel
theorem dX7_end_0 : decode cX7_end 0 = .ok (.iload_n 1, 1) := by decide +kernel
theorem dX7_end_1 : decode cX7_end 1 = .ok (.ifCond .lt 14, 3) := by decide +kernel
theorem dX7_end_4 : decode cX7_end 4 = .ok (.iload_n 1, 1) := by decide +kernel
theorem dX7_end_5 : decode cX7_end 5 = .ok (.aload_n 0, 1) := by decide +kernel
theorem dX7_end_6 : decode cX7_end 6 = .ok (.getfield 57, 3) := by decide +kernel
theorem dX7_end_9 : decode cX7_end 9 = .ok (.getfield 159, 3) := by decide +kernel
theorem dX7_end_12 : decode cX7_end 12 = .ok (.if_icmp .le 5, 3) := by decide +kernel
theorem dX7_end_15 : decode cX7_end 15 = .ok (.iconst (-1), 1) := by decide +kernel
theorem dX7_end_16 : decode cX7_end 16 = .ok (.ireturn, 1) := by decide +kernel
theorem dX7_end_17 : decode cX7_end 17 = .ok (.aload_n 0, 1) := by decide +kernel
theorem dX7_end_18 : decode cX7_end 18 = .ok (.getfield 57, 3) := by decide +kernel
theorem dX7_end_21 : decode cX7_end 21 = .ok (.iload_n 1, 1) := by decide +kernel
theorem dX7_end_22 : decode cX7_end 22 = .ok (.putfield 159, 3) := by decide +kernel
theorem dX7_end_25 : decode cX7_end 25 = .ok (.iload_n 1, 1) := by decide +kernel
theorem dX7_end_26 : decode cX7_end 26 = .ok (.ireturn, 1) := by decide +kernel
theorem dX7_draw_0 : decode cX7_draw 0 = .ok (.aload_n 0, 1) := by decide +kernel
theorem dX7_draw_1 : decode cX7_draw 1 = .ok (.getfield 66, 3) := by decide +kernel
theorem dX7_draw_4 : decode cX7_draw 4 = .ok (.aload_n 0, 1) := by decide +kernel
theorem dX7_draw_5 : decode cX7_draw 5 = .ok (.getfield 29, 3) := by decide +kernel
theorem dX7_draw_8 : decode cX7_draw 8 = .ok (.invokevirtual 166, 3) := by decide +kernel
theorem dX7_draw_11 : decode cX7_draw 11 = .ok (.istore_n 1, 1) := by decide +kernel
theorem dX7_draw_12 : decode cX7_draw 12 = .ok (.aload_n 0, 1) := by decide +kernel
theorem dX7_draw_13 : decode cX7_draw 13 = .ok (.getfield 57, 3) := by decide +kernel
theorem dX7_draw_16 : decode cX7_draw 16 = .ok (.iconst 0, 1) := by decide +kernel
theorem dX7_draw_17 : decode cX7_draw 17 = .ok (.putfield 159, 3) := by decide +kernel
theorem dX7_draw_20 : decode cX7_draw 20 = .ok (.iload_n 1, 1) := by decide +kernel
theorem dX7_draw_21 : decode cX7_draw 21 = .ok (.ifCond .ne 5, 3) := by decide +kernel
theorem dX7_draw_24 : decode cX7_draw 24 = .ok (.iconst (-1), 1) := by decide +kernel
theorem dX7_draw_25 : decode cX7_draw 25 = .ok (.ireturn, 1) := by decide +kernel
theorem dX7_draw_26 : decode cX7_draw 26 = .ok (.aload_n 0, 1) := by decide +kernel
theorem dX7_draw_27 : decode cX7_draw 27 = .ok (.invokevirtual 170, 3) := by decide +kernel
theorem dX7_draw_30 : decode cX7_draw 30 = .ok (.aload_n 0, 1) := by decide +kernel
theorem dX7_draw_31 : decode cX7_draw 31 = .ok (.getfield 10, 3) := by decide +kernel
theorem dX7_draw_34 : decode cX7_draw 34 = .ok (.getfield 133, 3) := by decide +kernel
theorem dX7_draw_37 : decode cX7_draw 37 = .ok (.aload_n 0, 1) := by decide +kernel
theorem dX7_draw_38 : decode cX7_draw 38 = .ok (.getfield 10, 3) := by decide +kernel
theorem dX7_draw_41 : decode cX7_draw 41 = .ok (.getfield 136, 3) := by decide +kernel
theorem dX7_draw_44 : decode cX7_draw 44 = .ok (.imul, 1) := by decide +kernel
theorem dX7_draw_45 : decode cX7_draw 45 = .ok (.ireturn, 1) := by decide +kernel
theorem dX7_back_0 : decode cX7_back 0 = .ok (.iload_n 1, 1) := by decide +kernel
theorem dX7_back_1 : decode cX7_back 1 = .ok (.invokestatic 173, 3) := by decide +kernel
theorem dX7_back_4 : decode cX7_back 4 = .ok (.ifCond .eq 10, 3) := by decide +kernel
theorem dX7_back_7 : decode cX7_back 7 = .ok (.iload_n 2, 1) := by decide +kernel
theorem dX7_back_8 : decode cX7_back 8 = .ok (.invokestatic 173, 3) := by decide +kernel
theorem dX7_back_11 : decode cX7_back 11 = .ok (.ifCond .ne 5, 3) := by decide +kernel
theorem dX7_back_14 : decode cX7_back 14 = .ok (.iconst (-1), 1) := by decide +kernel
theorem dX7_back_15 : decode cX7_back 15 = .ok (.ireturn, 1) := by decide +kernel
theorem dX7_back_16 : decode cX7_back 16 = .ok (.aload_n 0, 1) := by decide +kernel
theorem dX7_back_17 : decode cX7_back 17 = .ok (.getfield 29, 3) := by decide +kernel
theorem dX7_back_20 : decode cX7_back 20 = .ok (.iload_n 1, 1) := by decide +kernel
theorem dX7_back_21 : decode cX7_back 21 = .ok (.iload_n 2, 1) := by decide +kernel
theorem dX7_back_22 : decode cX7_back 22 = .ok (.invokevirtual 25, 3) := by decide +kernel
theorem dX7_back_25 : decode cX7_back 25 = .ok (.aload_n 0, 1) := by decide +kernel
theorem dX7_back_26 : decode cX7_back 26 = .ok (.getfield 29, 3) := by decide +kernel
theorem dX7_back_29 : decode cX7_back 29 = .ok (.iload_n 3, 1) := by decide +kernel
theorem dX7_back_30 : decode cX7_back 30 = .ok (.iload 4, 2) := by decide +kernel
theorem dX7_back_32 : decode cX7_back 32 = .ok (.invokevirtual 176, 3) := by decide +kernel
theorem dX7_back_35 : decode cX7_back 35 = .ok (.ifCond .ne 5, 3) := by decide +kernel
theorem dX7_back_38 : decode cX7_back 38 = .ok (.iconst (-1), 1) := by decide +kernel
theorem dX7_back_39 : decode cX7_back 39 = .ok (.ireturn, 1) := by decide +kernel
theorem dX7_back_40 : decode cX7_back 40 = .ok (.aload_n 0, 1) := by decide +kernel
theorem dX7_back_41 : decode cX7_back 41 = .ok (.getfield 75, 3) := by decide +kernel
theorem dX7_back_44 : decode cX7_back 44 = .ok (.aload_n 0, 1) := by decide +kernel
theorem dX7_back_45 : decode cX7_back 45 = .ok (.getfield 29, 3) := by decide +kernel
theorem dX7_back_48 : decode cX7_back 48 = .ok (.iload_n 3, 1) := by decide +kernel
theorem dX7_back_49 : decode cX7_back 49 = .ok (.iload 4, 2) := by decide +kernel
theorem dX7_back_51 : decode cX7_back 51 = .ok (.invokevirtual 179, 3) := by decide +kernel
theorem dX7_back_54 : decode cX7_back 54 = .ok (.istore 5, 2) := by decide +kernel
theorem dX7_back_56 : decode cX7_back 56 = .ok (.aload_n 0, 1) := by decide +kernel
theorem dX7_back_57 : decode cX7_back 57 = .ok (.getfield 57, 3) := by decide +kernel
theorem dX7_back_60 : decode cX7_back 60 = .ok (.iconst 0, 1) := by decide +kernel
theorem dX7_back_61 : decode cX7_back 61 = .ok (.putfield 159, 3) := by decide +kernel
theorem dX7_back_64 : decode cX7_back 64 = .ok (.iload 5, 2) := by decide +kernel
theorem dX7_back_66 : decode cX7_back 66 = .ok (.ifCond .ne 5, 3) := by decide +kernel
theorem dX7_back_69 : decode cX7_back 69 = .ok (.iconst (-1), 1) := by decide +kernel
theorem dX7_back_70 : decode cX7_back 70 = .ok (.ireturn, 1) := by decide +kernel
theorem dX7_back_71 : decode cX7_back 71 = .ok (.aload_n 0, 1) := by decide +kernel
theorem dX7_back_72 : decode cX7_back 72 = .ok (.invokevirtual 170, 3) := by decide +kernel
theorem dX7_back_75 : decode cX7_back 75 = .ok (.aload_n 0, 1) := by decide +kernel
theorem dX7_back_76 : decode cX7_back 76 = .ok (.getfield 75, 3) := by decide +kernel
theorem dX7_back_79 : decode cX7_back 79 = .ok (.getfield 182, 3) := by decide +kernel
theorem dX7_back_82 : decode cX7_back 82 = .ok (.ireturn, 1) := by decide +kernel
theorem dX7_fault_0 : decode cX7_fault 0 = .ok (.aload_n 0, 1) := by decide +kernel
theorem dX7_fault_1 : decode cX7_fault 1 = .ok (.getfield 57, 3) := by decide +kernel
theorem dX7_fault_4 : decode cX7_fault 4 = .ok (.getfield 185, 3) := by decide +kernel
theorem dX7_fault_7 : decode cX7_fault 7 = .ok (.ifCond .ne 5, 3) := by decide +kernel
theorem dX7_fault_10 : decode cX7_fault 10 = .ok (.iconst (-1), 1) := by decide +kernel
theorem dX7_fault_11 : decode cX7_fault 11 = .ok (.ireturn, 1) := by decide +kernel
theorem dX7_fault_12 : decode cX7_fault 12 = .ok (.iload_n 1, 1) := by decide +kernel
theorem dX7_fault_13 : decode cX7_fault 13 = .ok (.lookupswitch 43 #[(0, 27), (1, 35)], 27) := by decide +kernel
theorem dX7_fault_40 : decode cX7_fault 40 = .ok (.aload_n 0, 1) := by decide +kernel
theorem dX7_fault_41 : decode cX7_fault 41 = .ok (.getfield 57, 3) := by decide +kernel
theorem dX7_fault_44 : decode cX7_fault 44 = .ok (.getfield 188, 3) := by decide +kernel
theorem dX7_fault_47 : decode cX7_fault 47 = .ok (.ireturn, 1) := by decide +kernel
theorem dX7_fault_48 : decode cX7_fault 48 = .ok (.aload_n 0, 1) := by decide +kernel
theorem dX7_fault_49 : decode cX7_fault 49 = .ok (.getfield 57, 3) := by decide +kernel
theorem dX7_fault_52 : decode cX7_fault 52 = .ok (.getfield 191, 3) := by decide +kernel
theorem dX7_fault_55 : decode cX7_fault 55 = .ok (.ireturn, 1) := by decide +kernel
theorem dX7_fault_56 : decode cX7_fault 56 = .ok (.iconst (-1), 1) := by decide +kernel
theorem dX7_fault_57 : decode cX7_fault 57 = .ok (.ireturn, 1) := by decide +kernel
theorem dX7_keep_0 : decode cX7_keep 0 = .ok (.iload_n 1, 1) := by decide +kernel
theorem dX7_keep_1 : decode cX7_keep 1 = .ok (.ifCond .lt 9, 3) := by decide +kernel
theorem dX7_keep_4 : decode cX7_keep 4 = .ok (.iload_n 1, 1) := by decide +kernel
theorem dX7_keep_5 : decode cX7_keep 5 = .ok (.bipush 8, 2) := by decide +kernel
theorem dX7_keep_7 : decode cX7_keep 7 = .ok (.if_icmp .lt 5, 3) := by decide +kernel
theorem dX7_keep_10 : decode cX7_keep 10 = .ok (.iconst 0, 1) := by decide +kernel
theorem dX7_keep_11 : decode cX7_keep 11 = .ok (.ireturn, 1) := by decide +kernel
theorem dX7_keep_12 : decode cX7_keep 12 = .ok (.aload_n 0, 1) := by decide +kernel
theorem dX7_keep_13 : decode cX7_keep 13 = .ok (.getfield 36, 3) := by decide +kernel
theorem dX7_keep_16 : decode cX7_keep 16 = .ok (.iload_n 1, 1) := by decide +kernel
theorem dX7_keep_17 : decode cX7_keep 17 = .ok (.aaload, 1) := by decide +kernel
theorem dX7_keep_18 : decode cX7_keep 18 = .ok (.ifnonnull 16, 3) := by decide +kernel
theorem dX7_keep_21 : decode cX7_keep 21 = .ok (.aload_n 0, 1) := by decide +kernel
theorem dX7_keep_22 : decode cX7_keep 22 = .ok (.getfield 36, 3) := by decide +kernel
theorem dX7_keep_25 : decode cX7_keep 25 = .ok (.iload_n 1, 1) := by decide +kernel
theorem dX7_keep_26 : decode cX7_keep 26 = .ok (.new 7, 3) := by decide +kernel
theorem dX7_keep_29 : decode cX7_keep 29 = .ok (.dup, 1) := by decide +kernel
theorem dX7_keep_30 : decode cX7_keep 30 = .ok (.invokespecial 9, 3) := by decide +kernel
theorem dX7_keep_33 : decode cX7_keep 33 = .ok (.aastore, 1) := by decide +kernel
theorem dX7_keep_34 : decode cX7_keep 34 = .ok (.aload_n 0, 1) := by decide +kernel
theorem dX7_keep_35 : decode cX7_keep 35 = .ok (.getfield 36, 3) := by decide +kernel
theorem dX7_keep_38 : decode cX7_keep 38 = .ok (.iload_n 1, 1) := by decide +kernel
theorem dX7_keep_39 : decode cX7_keep 39 = .ok (.aaload, 1) := by decide +kernel
theorem dX7_keep_40 : decode cX7_keep 40 = .ok (.aload_n 0, 1) := by decide +kernel
theorem dX7_keep_41 : decode cX7_keep 41 = .ok (.getfield 10, 3) := by decide +kernel
theorem dX7_keep_44 : decode cX7_keep 44 = .ok (.invokevirtual 194, 3) := by decide +kernel
theorem dX7_keep_47 : decode cX7_keep 47 = .ok (.iconst 1, 1) := by decide +kernel
theorem dX7_keep_48 : decode cX7_keep 48 = .ok (.ireturn, 1) := by decide +kernel
theorem dX7_like_0 : decode cX7_like 0 = .ok (.iload_n 1, 1) := by decide +kernel
theorem dX7_like_1 : decode cX7_like 1 = .ok (.ifCond .lt 18, 3) := by decide +kernel
theorem dX7_like_4 : decode cX7_like 4 = .ok (.iload_n 1, 1) := by decide +kernel
theorem dX7_like_5 : decode cX7_like 5 = .ok (.bipush 8, 2) := by decide +kernel
theorem dX7_like_7 : decode cX7_like 7 = .ok (.if_icmp .ge 12, 3) := by decide +kernel
theorem dX7_like_10 : decode cX7_like 10 = .ok (.iload_n 2, 1) := by decide +kernel
theorem dX7_like_11 : decode cX7_like 11 = .ok (.ifCond .lt 8, 3) := by decide +kernel
theorem dX7_like_14 : decode cX7_like 14 = .ok (.iload_n 2, 1) := by decide +kernel
theorem dX7_like_15 : decode cX7_like 15 = .ok (.iconst 1, 1) := by decide +kernel
theorem dX7_like_16 : decode cX7_like 16 = .ok (.if_icmp .le 5, 3) := by decide +kernel
theorem dX7_like_19 : decode cX7_like 19 = .ok (.iconst (-1), 1) := by decide +kernel
theorem dX7_like_20 : decode cX7_like 20 = .ok (.ireturn, 1) := by decide +kernel
theorem dX7_like_21 : decode cX7_like 21 = .ok (.aload_n 0, 1) := by decide +kernel
theorem dX7_like_22 : decode cX7_like 22 = .ok (.getfield 36, 3) := by decide +kernel
theorem dX7_like_25 : decode cX7_like 25 = .ok (.iload_n 1, 1) := by decide +kernel
theorem dX7_like_26 : decode cX7_like 26 = .ok (.aaload, 1) := by decide +kernel
theorem dX7_like_27 : decode cX7_like 27 = .ok (.astore_n 3, 1) := by decide +kernel
theorem dX7_like_28 : decode cX7_like 28 = .ok (.aload_n 3, 1) := by decide +kernel
theorem dX7_like_29 : decode cX7_like 29 = .ok (.ifnonnull 5, 3) := by decide +kernel
theorem dX7_like_32 : decode cX7_like 32 = .ok (.iconst (-1), 1) := by decide +kernel
theorem dX7_like_33 : decode cX7_like 33 = .ok (.ireturn, 1) := by decide +kernel
theorem dX7_like_34 : decode cX7_like 34 = .ok (.iload_n 2, 1) := by decide +kernel
theorem dX7_like_35 : decode cX7_like 35 = .ok (.ifCond .ne 14, 3) := by decide +kernel
theorem dX7_like_38 : decode cX7_like 38 = .ok (.aload_n 3, 1) := by decide +kernel
theorem dX7_like_39 : decode cX7_like 39 = .ok (.aload_n 0, 1) := by decide +kernel
theorem dX7_like_40 : decode cX7_like 40 = .ok (.getfield 10, 3) := by decide +kernel
theorem dX7_like_43 : decode cX7_like 43 = .ok (.invokevirtual 198, 3) := by decide +kernel
theorem dX7_like_46 : decode cX7_like 46 = .ok (.goto 16, 3) := by decide +kernel
theorem dX7_like_49 : decode cX7_like 49 = .ok (.aload_n 0, 1) := by decide +kernel
theorem dX7_like_50 : decode cX7_like 50 = .ok (.aload_n 3, 1) := by decide +kernel
theorem dX7_like_51 : decode cX7_like 51 = .ok (.invokevirtual 201, 3) := by decide +kernel
theorem dX7_like_54 : decode cX7_like 54 = .ok (.ifCond .le 7, 3) := by decide +kernel
theorem dX7_like_57 : decode cX7_like 57 = .ok (.iconst 1, 1) := by decide +kernel
theorem dX7_like_58 : decode cX7_like 58 = .ok (.goto 4, 3) := by decide +kernel
theorem dX7_like_61 : decode cX7_like 61 = .ok (.iconst 0, 1) := by decide +kernel
theorem dX7_like_62 : decode cX7_like 62 = .ok (.istore 4, 2) := by decide +kernel
theorem dX7_like_64 : decode cX7_like 64 = .ok (.iload 4, 2) := by decide +kernel
theorem dX7_like_66 : decode cX7_like 66 = .ok (.ifCond .eq 7, 3) := by decide +kernel
theorem dX7_like_69 : decode cX7_like 69 = .ok (.iconst 1, 1) := by decide +kernel
theorem dX7_like_70 : decode cX7_like 70 = .ok (.goto 4, 3) := by decide +kernel
theorem dX7_like_73 : decode cX7_like 73 = .ok (.iconst 0, 1) := by decide +kernel
theorem dX7_like_74 : decode cX7_like 74 = .ok (.ireturn, 1) := by decide +kernel
theorem dX7_alike_0 : decode cX7_alike 0 = .ok (.aload_n 0, 1) := by decide +kernel
theorem dX7_alike_1 : decode cX7_alike 1 = .ok (.aload_n 0, 1) := by decide +kernel
theorem dX7_alike_2 : decode cX7_alike 2 = .ok (.getfield 10, 3) := by decide +kernel
theorem dX7_alike_5 : decode cX7_alike 5 = .ok (.invokevirtual 201, 3) := by decide +kernel
theorem dX7_alike_8 : decode cX7_alike 8 = .ok (.ireturn, 1) := by decide +kernel
theorem dX7_about_0 : decode cX7_about 0 = .ok (.iload_n 1, 1) := by decide +kernel
theorem dX7_about_1 : decode cX7_about 1 = .ok (.tableswitch 147 0 8 #[51, 59, 67, 103, 112, 121, 126, 131, 139], 51) := by decide +kernel
theorem dX7_about_52 : decode cX7_about 52 = .ok (.aload_n 0, 1) := by decide +kernel
theorem dX7_about_53 : decode cX7_about 53 = .ok (.getfield 10, 3) := by decide +kernel
theorem dX7_about_56 : decode cX7_about 56 = .ok (.getfield 133, 3) := by decide +kernel
theorem dX7_about_59 : decode cX7_about 59 = .ok (.ireturn, 1) := by decide +kernel
theorem dX7_about_60 : decode cX7_about 60 = .ok (.aload_n 0, 1) := by decide +kernel
theorem dX7_about_61 : decode cX7_about 61 = .ok (.getfield 10, 3) := by decide +kernel
theorem dX7_about_64 : decode cX7_about 64 = .ok (.getfield 136, 3) := by decide +kernel
theorem dX7_about_67 : decode cX7_about 67 = .ok (.ireturn, 1) := by decide +kernel
theorem dX7_about_68 : decode cX7_about 68 = .ok (.aload_n 0, 1) := by decide +kernel
theorem dX7_about_69 : decode cX7_about 69 = .ok (.getfield 10, 3) := by decide +kernel
theorem dX7_about_72 : decode cX7_about 72 = .ok (.getfield 133, 3) := by decide +kernel
theorem dX7_about_75 : decode cX7_about 75 = .ok (.aload_n 0, 1) := by decide +kernel
theorem dX7_about_76 : decode cX7_about 76 = .ok (.getfield 10, 3) := by decide +kernel
theorem dX7_about_79 : decode cX7_about 79 = .ok (.getfield 136, 3) := by decide +kernel
theorem dX7_about_82 : decode cX7_about 82 = .ok (.iconst 1, 1) := by decide +kernel
theorem dX7_about_83 : decode cX7_about 83 = .ok (.isub, 1) := by decide +kernel
theorem dX7_about_84 : decode cX7_about 84 = .ok (.imul, 1) := by decide +kernel
theorem dX7_about_85 : decode cX7_about 85 = .ok (.aload_n 0, 1) := by decide +kernel
theorem dX7_about_86 : decode cX7_about 86 = .ok (.getfield 10, 3) := by decide +kernel
theorem dX7_about_89 : decode cX7_about 89 = .ok (.getfield 136, 3) := by decide +kernel
theorem dX7_about_92 : decode cX7_about 92 = .ok (.aload_n 0, 1) := by decide +kernel
theorem dX7_about_93 : decode cX7_about 93 = .ok (.getfield 10, 3) := by decide +kernel
theorem dX7_about_96 : decode cX7_about 96 = .ok (.getfield 133, 3) := by decide +kernel
theorem dX7_about_99 : decode cX7_about 99 = .ok (.iconst 1, 1) := by decide +kernel
theorem dX7_about_100 : decode cX7_about 100 = .ok (.isub, 1) := by decide +kernel
theorem dX7_about_101 : decode cX7_about 101 = .ok (.imul, 1) := by decide +kernel
theorem dX7_about_102 : decode cX7_about 102 = .ok (.iadd, 1) := by decide +kernel
theorem dX7_about_103 : decode cX7_about 103 = .ok (.ireturn, 1) := by decide +kernel
theorem dX7_about_104 : decode cX7_about 104 = .ok (.aload_n 0, 1) := by decide +kernel
theorem dX7_about_105 : decode cX7_about 105 = .ok (.getfield 10, 3) := by decide +kernel
theorem dX7_about_108 : decode cX7_about 108 = .ok (.iconst 1, 1) := by decide +kernel
theorem dX7_about_109 : decode cX7_about 109 = .ok (.invokevirtual 205, 3) := by decide +kernel
theorem dX7_about_112 : decode cX7_about 112 = .ok (.ireturn, 1) := by decide +kernel
theorem dX7_about_113 : decode cX7_about 113 = .ok (.aload_n 0, 1) := by decide +kernel
theorem dX7_about_114 : decode cX7_about 114 = .ok (.getfield 10, 3) := by decide +kernel
theorem dX7_about_117 : decode cX7_about 117 = .ok (.iconst 2, 1) := by decide +kernel
theorem dX7_about_118 : decode cX7_about 118 = .ok (.invokevirtual 205, 3) := by decide +kernel
theorem dX7_about_121 : decode cX7_about 121 = .ok (.ireturn, 1) := by decide +kernel
theorem dX7_about_122 : decode cX7_about 122 = .ok (.aload_n 0, 1) := by decide +kernel
theorem dX7_about_123 : decode cX7_about 123 = .ok (.invokevirtual 208, 3) := by decide +kernel
theorem dX7_about_126 : decode cX7_about 126 = .ok (.ireturn, 1) := by decide +kernel
theorem dX7_about_127 : decode cX7_about 127 = .ok (.aload_n 0, 1) := by decide +kernel
theorem dX7_about_128 : decode cX7_about 128 = .ok (.invokevirtual 212, 3) := by decide +kernel
theorem dX7_about_131 : decode cX7_about 131 = .ok (.ireturn, 1) := by decide +kernel
theorem dX7_about_132 : decode cX7_about 132 = .ok (.aload_n 0, 1) := by decide +kernel
theorem dX7_about_133 : decode cX7_about 133 = .ok (.getfield 57, 3) := by decide +kernel
theorem dX7_about_136 : decode cX7_about 136 = .ok (.getfield 159, 3) := by decide +kernel
theorem dX7_about_139 : decode cX7_about 139 = .ok (.ireturn, 1) := by decide +kernel
theorem dX7_about_140 : decode cX7_about 140 = .ok (.aload_n 0, 1) := by decide +kernel
theorem dX7_about_141 : decode cX7_about 141 = .ok (.getfield 10, 3) := by decide +kernel
theorem dX7_about_144 : decode cX7_about 144 = .ok (.invokevirtual 215, 3) := by decide +kernel
theorem dX7_about_147 : decode cX7_about 147 = .ok (.ireturn, 1) := by decide +kernel
theorem dX7_about_148 : decode cX7_about 148 = .ok (.iconst (-1), 1) := by decide +kernel
theorem dX7_about_149 : decode cX7_about 149 = .ok (.ireturn, 1) := by decide +kernel
theorem dX7_isDots_0 : decode cX7_isDots 0 = .ok (.iload_n 0, 1) := by decide +kernel
theorem dX7_isDots_1 : decode cX7_isDots 1 = .ok (.iconst 1, 1) := by decide +kernel
theorem dX7_isDots_2 : decode cX7_isDots 2 = .ok (.if_icmp .lt 13, 3) := by decide +kernel
theorem dX7_isDots_5 : decode cX7_isDots 5 = .ok (.iload_n 0, 1) := by decide +kernel
theorem dX7_isDots_6 : decode cX7_isDots 6 = .ok (.bipush 8, 2) := by decide +kernel
theorem dX7_isDots_8 : decode cX7_isDots 8 = .ok (.if_icmp .gt 7, 3) := by decide +kernel
theorem dX7_isDots_11 : decode cX7_isDots 11 = .ok (.iconst 1, 1) := by decide +kernel
theorem dX7_isDots_12 : decode cX7_isDots 12 = .ok (.goto 4, 3) := by decide +kernel
theorem dX7_isDots_15 : decode cX7_isDots 15 = .ok (.iconst 0, 1) := by decide +kernel
theorem dX7_isDots_16 : decode cX7_isDots 16 = .ok (.ireturn, 1) := by decide +kernel
theorem dX7_placeOf_0 : decode cX7_placeOf 0 = .ok (.bipush 8, 2) := by decide +kernel
theorem dX7_placeOf_2 : decode cX7_placeOf 2 = .ok (.iload_n 1, 1) := by decide +kernel
theorem dX7_placeOf_3 : decode cX7_placeOf 3 = .ok (.imul, 1) := by decide +kernel
theorem dX7_placeOf_4 : decode cX7_placeOf 4 = .ok (.iload_n 0, 1) := by decide +kernel
theorem dX7_placeOf_5 : decode cX7_placeOf 5 = .ok (.iconst 2, 1) := by decide +kernel
theorem dX7_placeOf_6 : decode cX7_placeOf 6 = .ok (.idiv, 1) := by decide +kernel
theorem dX7_placeOf_7 : decode cX7_placeOf 7 = .ok (.iadd, 1) := by decide +kernel
theorem dX7_placeOf_8 : decode cX7_placeOf 8 = .ok (.ireturn, 1) := by decide +kernel
theorem dX7_lowerOther_0 : decode cX7_lowerOther 0 = .ok (.iload_n 0, 1) := by decide +kernel
theorem dX7_lowerOther_1 : decode cX7_lowerOther 1 = .ok (.ifCond .ne 7, 3) := by decide +kernel
theorem dX7_lowerOther_4 : decode cX7_lowerOther 4 = .ok (.iconst 1, 1) := by decide +kernel
theorem dX7_lowerOther_5 : decode cX7_lowerOther 5 = .ok (.goto 4, 3) := by decide +kernel
theorem dX7_lowerOther_8 : decode cX7_lowerOther 8 = .ok (.iconst 0, 1) := by decide +kernel
theorem dX7_lowerOther_9 : decode cX7_lowerOther 9 = .ok (.ireturn, 1) := by decide +kernel
theorem dX7_forgetLines_0 : decode cX7_forgetLines 0 = .ok (.aload_n 0, 1) := by decide +kernel
theorem dX7_forgetLines_1 : decode cX7_forgetLines 1 = .ok (.iconst 0, 1) := by decide +kernel
theorem dX7_forgetLines_2 : decode cX7_forgetLines 2 = .ok (.putfield 79, 3) := by decide +kernel
theorem dX7_forgetLines_5 : decode cX7_forgetLines 5 = .ok (.aload_n 0, 1) := by decide +kernel
theorem dX7_forgetLines_6 : decode cX7_forgetLines 6 = .ok (.iconst 0, 1) := by decide +kernel
theorem dX7_forgetLines_7 : decode cX7_forgetLines 7 = .ok (.putfield 83, 3) := by decide +kernel
theorem dX7_forgetLines_10 : decode cX7_forgetLines 10 = .ok (.return_, 1) := by decide +kernel
theorem dX7_knowLines_0 : decode cX7_knowLines 0 = .ok (.aload_n 0, 1) := by decide +kernel
theorem dX7_knowLines_1 : decode cX7_knowLines 1 = .ok (.getfield 79, 3) := by decide +kernel
theorem dX7_knowLines_4 : decode cX7_knowLines 4 = .ok (.ifCond .ne 19, 3) := by decide +kernel
theorem dX7_knowLines_7 : decode cX7_knowLines 7 = .ok (.aload_n 0, 1) := by decide +kernel
theorem dX7_knowLines_8 : decode cX7_knowLines 8 = .ok (.getfield 43, 3) := by decide +kernel
theorem dX7_knowLines_11 : decode cX7_knowLines 11 = .ok (.aload_n 0, 1) := by decide +kernel
theorem dX7_knowLines_12 : decode cX7_knowLines 12 = .ok (.getfield 10, 3) := by decide +kernel
theorem dX7_knowLines_15 : decode cX7_knowLines 15 = .ok (.invokevirtual 218, 3) := by decide +kernel
theorem dX7_knowLines_18 : decode cX7_knowLines 18 = .ok (.aload_n 0, 1) := by decide +kernel
theorem dX7_knowLines_19 : decode cX7_knowLines 19 = .ok (.iconst 1, 1) := by decide +kernel
theorem dX7_knowLines_20 : decode cX7_knowLines 20 = .ok (.putfield 79, 3) := by decide +kernel
theorem dX7_knowLines_23 : decode cX7_knowLines 23 = .ok (.return_, 1) := by decide +kernel
theorem dX7_knowJoin_0 : decode cX7_knowJoin 0 = .ok (.aload_n 0, 1) := by decide +kernel
theorem dX7_knowJoin_1 : decode cX7_knowJoin 1 = .ok (.invokevirtual 103, 3) := by decide +kernel
theorem dX7_knowJoin_4 : decode cX7_knowJoin 4 = .ok (.aload_n 0, 1) := by decide +kernel
theorem dX7_knowJoin_5 : decode cX7_knowJoin 5 = .ok (.getfield 83, 3) := by decide +kernel
theorem dX7_knowJoin_8 : decode cX7_knowJoin 8 = .ok (.ifCond .ne 27, 3) := by decide +kernel
theorem dX7_knowJoin_11 : decode cX7_knowJoin 11 = .ok (.aload_n 0, 1) := by decide +kernel
theorem dX7_knowJoin_12 : decode cX7_knowJoin 12 = .ok (.getfield 50, 3) := by decide +kernel
theorem dX7_knowJoin_15 : decode cX7_knowJoin 15 = .ok (.aload_n 0, 1) := by decide +kernel
theorem dX7_knowJoin_16 : decode cX7_knowJoin 16 = .ok (.getfield 10, 3) := by decide +kernel
theorem dX7_knowJoin_19 : decode cX7_knowJoin 19 = .ok (.aload_n 0, 1) := by decide +kernel
theorem dX7_knowJoin_20 : decode cX7_knowJoin 20 = .ok (.getfield 32, 3) := by decide +kernel
theorem dX7_knowJoin_23 : decode cX7_knowJoin 23 = .ok (.aload_n 0, 1) := by decide +kernel
theorem dX7_knowJoin_24 : decode cX7_knowJoin 24 = .ok (.getfield 43, 3) := by decide +kernel
theorem dX7_knowJoin_27 : decode cX7_knowJoin 27 = .ok (.invokevirtual 221, 3) := by decide +kernel
theorem dX7_knowJoin_30 : decode cX7_knowJoin 30 = .ok (.aload_n 0, 1) := by decide +kernel
theorem dX7_knowJoin_31 : decode cX7_knowJoin 31 = .ok (.iconst 1, 1) := by decide +kernel
theorem dX7_knowJoin_32 : decode cX7_knowJoin 32 = .ok (.putfield 83, 3) := by decide +kernel
theorem dX7_knowJoin_35 : decode cX7_knowJoin 35 = .ok (.return_, 1) := by decide +kernel
theorem dX7_takeSpare_0 : decode cX7_takeSpare 0 = .ok (.aload_n 0, 1) := by decide +kernel
theorem dX7_takeSpare_1 : decode cX7_takeSpare 1 = .ok (.getfield 10, 3) := by decide +kernel
theorem dX7_takeSpare_4 : decode cX7_takeSpare 4 = .ok (.aload_n 0, 1) := by decide +kernel
theorem dX7_takeSpare_5 : decode cX7_takeSpare 5 = .ok (.getfield 29, 3) := by decide +kernel
theorem dX7_takeSpare_8 : decode cX7_takeSpare 8 = .ok (.invokevirtual 194, 3) := by decide +kernel
theorem dX7_takeSpare_11 : decode cX7_takeSpare 11 = .ok (.aload_n 0, 1) := by decide +kernel
theorem dX7_takeSpare_12 : decode cX7_takeSpare 12 = .ok (.getfield 32, 3) := by decide +kernel
theorem dX7_takeSpare_15 : decode cX7_takeSpare 15 = .ok (.iconst 0, 1) := by decide +kernel
theorem dX7_takeSpare_16 : decode cX7_takeSpare 16 = .ok (.invokestatic 225, 3) := by decide +kernel
theorem dX7_takeSpare_19 : decode cX7_takeSpare 19 = .ok (.aload_n 0, 1) := by decide +kernel
theorem dX7_takeSpare_20 : decode cX7_takeSpare 20 = .ok (.invokevirtual 94, 3) := by decide +kernel
theorem dX7_takeSpare_23 : decode cX7_takeSpare 23 = .ok (.return_, 1) := by decide +kernel
theorem dX7_squaresRound_0 : decode cX7_squaresRound 0 = .ok (.iconst 2, 1) := by decide +kernel
theorem dX7_squaresRound_1 : decode cX7_squaresRound 1 = .ok (.aload_n 0, 1) := by decide +kernel
theorem dX7_squaresRound_2 : decode cX7_squaresRound 2 = .ok (.getfield 10, 3) := by decide +kernel
theorem dX7_squaresRound_5 : decode cX7_squaresRound 5 = .ok (.getfield 133, 3) := by decide +kernel
theorem dX7_squaresRound_8 : decode cX7_squaresRound 8 = .ok (.imul, 1) := by decide +kernel
theorem dX7_squaresRound_9 : decode cX7_squaresRound 9 = .ok (.istore 4, 2) := by decide +kernel
theorem dX7_squaresRound_11 : decode cX7_squaresRound 11 = .ok (.iload 4, 2) := by decide +kernel
theorem dX7_squaresRound_13 : decode cX7_squaresRound 13 = .ok (.iload_n 3, 1) := by decide +kernel
theorem dX7_squaresRound_14 : decode cX7_squaresRound 14 = .ok (.imul, 1) := by decide +kernel
theorem dX7_squaresRound_15 : decode cX7_squaresRound 15 = .ok (.iload_n 2, 1) := by decide +kernel
theorem dX7_squaresRound_16 : decode cX7_squaresRound 16 = .ok (.iadd, 1) := by decide +kernel
theorem dX7_squaresRound_17 : decode cX7_squaresRound 17 = .ok (.istore 5, 2) := by decide +kernel
theorem dX7_squaresRound_19 : decode cX7_squaresRound 19 = .ok (.iconst 0, 1) := by decide +kernel
theorem dX7_squaresRound_20 : decode cX7_squaresRound 20 = .ok (.istore 6, 2) := by decide +kernel
theorem dX7_squaresRound_22 : decode cX7_squaresRound 22 = .ok (.iload 6, 2) := by decide +kernel
theorem dX7_squaresRound_24 : decode cX7_squaresRound 24 = .ok (.aload_n 0, 1) := by decide +kernel
theorem dX7_squaresRound_25 : decode cX7_squaresRound 25 = .ok (.getfield 43, 3) := by decide +kernel
theorem dX7_squaresRound_28 : decode cX7_squaresRound 28 = .ok (.iload 5, 2) := by decide +kernel
theorem dX7_squaresRound_30 : decode cX7_squaresRound 30 = .ok (.invokevirtual 114, 3) := by decide +kernel
theorem dX7_squaresRound_33 : decode cX7_squaresRound 33 = .ok (.iload_n 1, 1) := by decide +kernel
theorem dX7_squaresRound_34 : decode cX7_squaresRound 34 = .ok (.if_icmp .ne 7, 3) := by decide +kernel
theorem dX7_squaresRound_37 : decode cX7_squaresRound 37 = .ok (.iconst 1, 1) := by decide +kernel
theorem dX7_squaresRound_38 : decode cX7_squaresRound 38 = .ok (.goto 4, 3) := by decide +kernel
theorem dX7_squaresRound_41 : decode cX7_squaresRound 41 = .ok (.iconst 0, 1) := by decide +kernel
theorem dX7_squaresRound_42 : decode cX7_squaresRound 42 = .ok (.iadd, 1) := by decide +kernel
theorem dX7_squaresRound_43 : decode cX7_squaresRound 43 = .ok (.istore 6, 2) := by decide +kernel
theorem dX7_squaresRound_45 : decode cX7_squaresRound 45 = .ok (.iload 6, 2) := by decide +kernel
theorem dX7_squaresRound_47 : decode cX7_squaresRound 47 = .ok (.aload_n 0, 1) := by decide +kernel
theorem dX7_squaresRound_48 : decode cX7_squaresRound 48 = .ok (.getfield 43, 3) := by decide +kernel
theorem dX7_squaresRound_51 : decode cX7_squaresRound 51 = .ok (.iload 5, 2) := by decide +kernel
theorem dX7_squaresRound_53 : decode cX7_squaresRound 53 = .ok (.iconst 1, 1) := by decide +kernel
theorem dX7_squaresRound_54 : decode cX7_squaresRound 54 = .ok (.isub, 1) := by decide +kernel
theorem dX7_squaresRound_55 : decode cX7_squaresRound 55 = .ok (.invokevirtual 114, 3) := by decide +kernel
theorem dX7_squaresRound_58 : decode cX7_squaresRound 58 = .ok (.iload_n 1, 1) := by decide +kernel
theorem dX7_squaresRound_59 : decode cX7_squaresRound 59 = .ok (.if_icmp .ne 7, 3) := by decide +kernel
theorem dX7_squaresRound_62 : decode cX7_squaresRound 62 = .ok (.iconst 1, 1) := by decide +kernel
theorem dX7_squaresRound_63 : decode cX7_squaresRound 63 = .ok (.goto 4, 3) := by decide +kernel
theorem dX7_squaresRound_66 : decode cX7_squaresRound 66 = .ok (.iconst 0, 1) := by decide +kernel
theorem dX7_squaresRound_67 : decode cX7_squaresRound 67 = .ok (.iadd, 1) := by decide +kernel
theorem dX7_squaresRound_68 : decode cX7_squaresRound 68 = .ok (.istore 6, 2) := by decide +kernel
theorem dX7_squaresRound_70 : decode cX7_squaresRound 70 = .ok (.iload 6, 2) := by decide +kernel
theorem dX7_squaresRound_72 : decode cX7_squaresRound 72 = .ok (.aload_n 0, 1) := by decide +kernel
theorem dX7_squaresRound_73 : decode cX7_squaresRound 73 = .ok (.getfield 43, 3) := by decide +kernel
theorem dX7_squaresRound_76 : decode cX7_squaresRound 76 = .ok (.iload 5, 2) := by decide +kernel
theorem dX7_squaresRound_78 : decode cX7_squaresRound 78 = .ok (.iload 4, 2) := by decide +kernel
theorem dX7_squaresRound_80 : decode cX7_squaresRound 80 = .ok (.isub, 1) := by decide +kernel
theorem dX7_squaresRound_81 : decode cX7_squaresRound 81 = .ok (.invokevirtual 114, 3) := by decide +kernel
theorem dX7_squaresRound_84 : decode cX7_squaresRound 84 = .ok (.iload_n 1, 1) := by decide +kernel
theorem dX7_squaresRound_85 : decode cX7_squaresRound 85 = .ok (.if_icmp .ne 7, 3) := by decide +kernel
theorem dX7_squaresRound_88 : decode cX7_squaresRound 88 = .ok (.iconst 1, 1) := by decide +kernel
theorem dX7_squaresRound_89 : decode cX7_squaresRound 89 = .ok (.goto 4, 3) := by decide +kernel
theorem dX7_squaresRound_92 : decode cX7_squaresRound 92 = .ok (.iconst 0, 1) := by decide +kernel
theorem dX7_squaresRound_93 : decode cX7_squaresRound 93 = .ok (.iadd, 1) := by decide +kernel
theorem dX7_squaresRound_94 : decode cX7_squaresRound 94 = .ok (.istore 6, 2) := by decide +kernel
theorem dX7_squaresRound_96 : decode cX7_squaresRound 96 = .ok (.iload 6, 2) := by decide +kernel
theorem dX7_squaresRound_98 : decode cX7_squaresRound 98 = .ok (.aload_n 0, 1) := by decide +kernel
theorem dX7_squaresRound_99 : decode cX7_squaresRound 99 = .ok (.getfield 43, 3) := by decide +kernel
theorem dX7_squaresRound_102 : decode cX7_squaresRound 102 = .ok (.iload 5, 2) := by decide +kernel
theorem dX7_squaresRound_104 : decode cX7_squaresRound 104 = .ok (.iload 4, 2) := by decide +kernel
theorem dX7_squaresRound_106 : decode cX7_squaresRound 106 = .ok (.isub, 1) := by decide +kernel
theorem dX7_squaresRound_107 : decode cX7_squaresRound 107 = .ok (.iconst 1, 1) := by decide +kernel
theorem dX7_squaresRound_108 : decode cX7_squaresRound 108 = .ok (.isub, 1) := by decide +kernel
theorem dX7_squaresRound_109 : decode cX7_squaresRound 109 = .ok (.invokevirtual 114, 3) := by decide +kernel
theorem dX7_squaresRound_112 : decode cX7_squaresRound 112 = .ok (.iload_n 1, 1) := by decide +kernel
theorem dX7_squaresRound_113 : decode cX7_squaresRound 113 = .ok (.if_icmp .ne 7, 3) := by decide +kernel
theorem dX7_squaresRound_116 : decode cX7_squaresRound 116 = .ok (.iconst 1, 1) := by decide +kernel
theorem dX7_squaresRound_117 : decode cX7_squaresRound 117 = .ok (.goto 4, 3) := by decide +kernel
theorem dX7_squaresRound_120 : decode cX7_squaresRound 120 = .ok (.iconst 0, 1) := by decide +kernel
theorem dX7_squaresRound_121 : decode cX7_squaresRound 121 = .ok (.iadd, 1) := by decide +kernel
theorem dX7_squaresRound_122 : decode cX7_squaresRound 122 = .ok (.istore 6, 2) := by decide +kernel
theorem dX7_squaresRound_124 : decode cX7_squaresRound 124 = .ok (.iload 6, 2) := by decide +kernel
theorem dX7_squaresRound_126 : decode cX7_squaresRound 126 = .ok (.ireturn, 1) := by decide +kernel
theorem dX7_dotsHeld_0 : decode cX7_dotsHeld 0 = .ok (.iconst 0, 1) := by decide +kernel
theorem dX7_dotsHeld_1 : decode cX7_dotsHeld 1 = .ok (.istore_n 3, 1) := by decide +kernel
theorem dX7_dotsHeld_2 : decode cX7_dotsHeld 2 = .ok (.iconst 0, 1) := by decide +kernel
theorem dX7_dotsHeld_3 : decode cX7_dotsHeld 3 = .ok (.istore 4, 2) := by decide +kernel
theorem dX7_dotsHeld_5 : decode cX7_dotsHeld 5 = .ok (.iload 4, 2) := by decide +kernel
theorem dX7_dotsHeld_7 : decode cX7_dotsHeld 7 = .ok (.aload_n 0, 1) := by decide +kernel
theorem dX7_dotsHeld_8 : decode cX7_dotsHeld 8 = .ok (.getfield 10, 3) := by decide +kernel
theorem dX7_dotsHeld_11 : decode cX7_dotsHeld 11 = .ok (.getfield 136, 3) := by decide +kernel
theorem dX7_dotsHeld_14 : decode cX7_dotsHeld 14 = .ok (.if_icmp .ge 54, 3) := by decide +kernel
theorem dX7_dotsHeld_17 : decode cX7_dotsHeld 17 = .ok (.iconst 0, 1) := by decide +kernel
theorem dX7_dotsHeld_18 : decode cX7_dotsHeld 18 = .ok (.istore 5, 2) := by decide +kernel
theorem dX7_dotsHeld_20 : decode cX7_dotsHeld 20 = .ok (.iload 5, 2) := by decide +kernel
theorem dX7_dotsHeld_22 : decode cX7_dotsHeld 22 = .ok (.aload_n 0, 1) := by decide +kernel
theorem dX7_dotsHeld_23 : decode cX7_dotsHeld 23 = .ok (.getfield 10, 3) := by decide +kernel
theorem dX7_dotsHeld_26 : decode cX7_dotsHeld 26 = .ok (.getfield 133, 3) := by decide +kernel
theorem dX7_dotsHeld_29 : decode cX7_dotsHeld 29 = .ok (.if_icmp .ge 33, 3) := by decide +kernel
theorem dX7_dotsHeld_32 : decode cX7_dotsHeld 32 = .ok (.aload_n 0, 1) := by decide +kernel
theorem dX7_dotsHeld_33 : decode cX7_dotsHeld 33 = .ok (.iload_n 1, 1) := by decide +kernel
theorem dX7_dotsHeld_34 : decode cX7_dotsHeld 34 = .ok (.iconst 2, 1) := by decide +kernel
theorem dX7_dotsHeld_35 : decode cX7_dotsHeld 35 = .ok (.iload 5, 2) := by decide +kernel
theorem dX7_dotsHeld_37 : decode cX7_dotsHeld 37 = .ok (.imul, 1) := by decide +kernel
theorem dX7_dotsHeld_38 : decode cX7_dotsHeld 38 = .ok (.iconst 1, 1) := by decide +kernel
theorem dX7_dotsHeld_39 : decode cX7_dotsHeld 39 = .ok (.iadd, 1) := by decide +kernel
theorem dX7_dotsHeld_40 : decode cX7_dotsHeld 40 = .ok (.iconst 2, 1) := by decide +kernel
theorem dX7_dotsHeld_41 : decode cX7_dotsHeld 41 = .ok (.iload 4, 2) := by decide +kernel
theorem dX7_dotsHeld_43 : decode cX7_dotsHeld 43 = .ok (.imul, 1) := by decide +kernel
theorem dX7_dotsHeld_44 : decode cX7_dotsHeld 44 = .ok (.iconst 1, 1) := by decide +kernel
theorem dX7_dotsHeld_45 : decode cX7_dotsHeld 45 = .ok (.iadd, 1) := by decide +kernel
theorem dX7_dotsHeld_46 : decode cX7_dotsHeld 46 = .ok (.invokevirtual 139, 3) := by decide +kernel
theorem dX7_dotsHeld_49 : decode cX7_dotsHeld 49 = .ok (.iload_n 2, 1) := by decide +kernel
theorem dX7_dotsHeld_50 : decode cX7_dotsHeld 50 = .ok (.if_icmp .lt 6, 3) := by decide +kernel
theorem dX7_dotsHeld_53 : decode cX7_dotsHeld 53 = .ok (.iinc 3 1, 3) := by decide +kernel
theorem dX7_dotsHeld_56 : decode cX7_dotsHeld 56 = .ok (.iinc 5 1, 3) := by decide +kernel
theorem dX7_dotsHeld_59 : decode cX7_dotsHeld 59 = .ok (.goto (-39), 3) := by decide +kernel
theorem dX7_dotsHeld_62 : decode cX7_dotsHeld 62 = .ok (.iinc 4 1, 3) := by decide +kernel
theorem dX7_dotsHeld_65 : decode cX7_dotsHeld 65 = .ok (.goto (-60), 3) := by decide +kernel
theorem dX7_dotsHeld_68 : decode cX7_dotsHeld 68 = .ok (.iload_n 3, 1) := by decide +kernel
theorem dX7_dotsHeld_69 : decode cX7_dotsHeld 69 = .ok (.ireturn, 1) := by decide +kernel
theorem dX7_pointsMetTwice_0 : decode cX7_pointsMetTwice 0 = .ok (.iconst 0, 1) := by decide +kernel
theorem dX7_pointsMetTwice_1 : decode cX7_pointsMetTwice 1 = .ok (.istore_n 2, 1) := by decide +kernel
theorem dX7_pointsMetTwice_2 : decode cX7_pointsMetTwice 2 = .ok (.iconst 1, 1) := by decide +kernel
theorem dX7_pointsMetTwice_3 : decode cX7_pointsMetTwice 3 = .ok (.istore_n 3, 1) := by decide +kernel
theorem dX7_pointsMetTwice_4 : decode cX7_pointsMetTwice 4 = .ok (.iload_n 3, 1) := by decide +kernel
theorem dX7_pointsMetTwice_5 : decode cX7_pointsMetTwice 5 = .ok (.iconst 2, 1) := by decide +kernel
theorem dX7_pointsMetTwice_6 : decode cX7_pointsMetTwice 6 = .ok (.aload_n 0, 1) := by decide +kernel
theorem dX7_pointsMetTwice_7 : decode cX7_pointsMetTwice 7 = .ok (.getfield 10, 3) := by decide +kernel
theorem dX7_pointsMetTwice_10 : decode cX7_pointsMetTwice 10 = .ok (.getfield 136, 3) := by decide +kernel
theorem dX7_pointsMetTwice_13 : decode cX7_pointsMetTwice 13 = .ok (.imul, 1) := by decide +kernel
theorem dX7_pointsMetTwice_14 : decode cX7_pointsMetTwice 14 = .ok (.if_icmp .ge 51, 3) := by decide +kernel
theorem dX7_pointsMetTwice_17 : decode cX7_pointsMetTwice 17 = .ok (.iconst 1, 1) := by decide +kernel
theorem dX7_pointsMetTwice_18 : decode cX7_pointsMetTwice 18 = .ok (.iload_n 3, 1) := by decide +kernel
theorem dX7_pointsMetTwice_19 : decode cX7_pointsMetTwice 19 = .ok (.iconst 1, 1) := by decide +kernel
theorem dX7_pointsMetTwice_20 : decode cX7_pointsMetTwice 20 = .ok (.iand, 1) := by decide +kernel
theorem dX7_pointsMetTwice_21 : decode cX7_pointsMetTwice 21 = .ok (.iadd, 1) := by decide +kernel
theorem dX7_pointsMetTwice_22 : decode cX7_pointsMetTwice 22 = .ok (.istore 4, 2) := by decide +kernel
theorem dX7_pointsMetTwice_24 : decode cX7_pointsMetTwice 24 = .ok (.iload 4, 2) := by decide +kernel
theorem dX7_pointsMetTwice_26 : decode cX7_pointsMetTwice 26 = .ok (.iconst 2, 1) := by decide +kernel
theorem dX7_pointsMetTwice_27 : decode cX7_pointsMetTwice 27 = .ok (.aload_n 0, 1) := by decide +kernel
theorem dX7_pointsMetTwice_28 : decode cX7_pointsMetTwice 28 = .ok (.getfield 10, 3) := by decide +kernel
theorem dX7_pointsMetTwice_31 : decode cX7_pointsMetTwice 31 = .ok (.getfield 133, 3) := by decide +kernel
theorem dX7_pointsMetTwice_34 : decode cX7_pointsMetTwice 34 = .ok (.imul, 1) := by decide +kernel
theorem dX7_pointsMetTwice_35 : decode cX7_pointsMetTwice 35 = .ok (.if_icmp .ge 24, 3) := by decide +kernel
theorem dX7_pointsMetTwice_38 : decode cX7_pointsMetTwice 38 = .ok (.aload_n 0, 1) := by decide +kernel
theorem dX7_pointsMetTwice_39 : decode cX7_pointsMetTwice 39 = .ok (.iload_n 1, 1) := by decide +kernel
theorem dX7_pointsMetTwice_40 : decode cX7_pointsMetTwice 40 = .ok (.iload 4, 2) := by decide +kernel
theorem dX7_pointsMetTwice_42 : decode cX7_pointsMetTwice 42 = .ok (.iload_n 3, 1) := by decide +kernel
theorem dX7_pointsMetTwice_43 : decode cX7_pointsMetTwice 43 = .ok (.invokevirtual 139, 3) := by decide +kernel
theorem dX7_pointsMetTwice_46 : decode cX7_pointsMetTwice 46 = .ok (.iconst 4, 1) := by decide +kernel
theorem dX7_pointsMetTwice_47 : decode cX7_pointsMetTwice 47 = .ok (.if_icmp .ne 6, 3) := by decide +kernel
theorem dX7_pointsMetTwice_50 : decode cX7_pointsMetTwice 50 = .ok (.iinc 2 1, 3) := by decide +kernel
theorem dX7_pointsMetTwice_53 : decode cX7_pointsMetTwice 53 = .ok (.iinc 4 2, 3) := by decide +kernel
theorem dX7_pointsMetTwice_56 : decode cX7_pointsMetTwice 56 = .ok (.goto (-32), 3) := by decide +kernel
theorem dX7_pointsMetTwice_59 : decode cX7_pointsMetTwice 59 = .ok (.iinc 3 1, 3) := by decide +kernel
theorem dX7_pointsMetTwice_62 : decode cX7_pointsMetTwice 62 = .ok (.goto (-58), 3) := by decide +kernel
theorem dX7_pointsMetTwice_65 : decode cX7_pointsMetTwice 65 = .ok (.iload_n 2, 1) := by decide +kernel
theorem dX7_pointsMetTwice_66 : decode cX7_pointsMetTwice 66 = .ok (.ireturn, 1) := by decide +kernel
theorem dX7_waysFrom_0 : decode cX7_waysFrom 0 = .ok (.iconst 0, 1) := by decide +kernel
theorem dX7_waysFrom_1 : decode cX7_waysFrom 1 = .ok (.istore_n 2, 1) := by decide +kernel
theorem dX7_waysFrom_2 : decode cX7_waysFrom 2 = .ok (.iconst 0, 1) := by decide +kernel
theorem dX7_waysFrom_3 : decode cX7_waysFrom 3 = .ok (.istore_n 3, 1) := by decide +kernel
theorem dX7_waysFrom_4 : decode cX7_waysFrom 4 = .ok (.iload_n 3, 1) := by decide +kernel
theorem dX7_waysFrom_5 : decode cX7_waysFrom 5 = .ok (.iconst 4, 1) := by decide +kernel
theorem dX7_waysFrom_6 : decode cX7_waysFrom 6 = .ok (.if_icmp .ge 73, 3) := by decide +kernel
theorem dX7_waysFrom_9 : decode cX7_waysFrom 9 = .ok (.aload_n 0, 1) := by decide +kernel
theorem dX7_waysFrom_10 : decode cX7_waysFrom 10 = .ok (.getfield 29, 3) := by decide +kernel
theorem dX7_waysFrom_13 : decode cX7_waysFrom 13 = .ok (.aload_n 1, 1) := by decide +kernel
theorem dX7_waysFrom_14 : decode cX7_waysFrom 14 = .ok (.iload_n 3, 1) := by decide +kernel
theorem dX7_waysFrom_15 : decode cX7_waysFrom 15 = .ok (.iconst 0, 1) := by decide +kernel
theorem dX7_waysFrom_16 : decode cX7_waysFrom 16 = .ok (.invokevirtual 231, 3) := by decide +kernel
theorem dX7_waysFrom_19 : decode cX7_waysFrom 19 = .ok (.iload_n 2, 1) := by decide +kernel
theorem dX7_waysFrom_20 : decode cX7_waysFrom 20 = .ok (.aload_n 0, 1) := by decide +kernel
theorem dX7_waysFrom_21 : decode cX7_waysFrom 21 = .ok (.getfield 29, 3) := by decide +kernel
theorem dX7_waysFrom_24 : decode cX7_waysFrom 24 = .ok (.aload_n 0, 1) := by decide +kernel
theorem dX7_waysFrom_25 : decode cX7_waysFrom 25 = .ok (.getfield 10, 3) := by decide +kernel
theorem dX7_waysFrom_28 : decode cX7_waysFrom 28 = .ok (.invokevirtual 198, 3) := by decide +kernel
theorem dX7_waysFrom_31 : decode cX7_waysFrom 31 = .ok (.ifCond .eq 7, 3) := by decide +kernel
theorem dX7_waysFrom_34 : decode cX7_waysFrom 34 = .ok (.iconst 1, 1) := by decide +kernel
theorem dX7_waysFrom_35 : decode cX7_waysFrom 35 = .ok (.goto 4, 3) := by decide +kernel
theorem dX7_waysFrom_38 : decode cX7_waysFrom 38 = .ok (.iconst 0, 1) := by decide +kernel
theorem dX7_waysFrom_39 : decode cX7_waysFrom 39 = .ok (.iadd, 1) := by decide +kernel
theorem dX7_waysFrom_40 : decode cX7_waysFrom 40 = .ok (.istore_n 2, 1) := by decide +kernel
theorem dX7_waysFrom_41 : decode cX7_waysFrom 41 = .ok (.aload_n 0, 1) := by decide +kernel
theorem dX7_waysFrom_42 : decode cX7_waysFrom 42 = .ok (.getfield 29, 3) := by decide +kernel
theorem dX7_waysFrom_45 : decode cX7_waysFrom 45 = .ok (.aload_n 1, 1) := by decide +kernel
theorem dX7_waysFrom_46 : decode cX7_waysFrom 46 = .ok (.iload_n 3, 1) := by decide +kernel
theorem dX7_waysFrom_47 : decode cX7_waysFrom 47 = .ok (.iconst 1, 1) := by decide +kernel
theorem dX7_waysFrom_48 : decode cX7_waysFrom 48 = .ok (.invokevirtual 231, 3) := by decide +kernel
theorem dX7_waysFrom_51 : decode cX7_waysFrom 51 = .ok (.iload_n 2, 1) := by decide +kernel
theorem dX7_waysFrom_52 : decode cX7_waysFrom 52 = .ok (.aload_n 0, 1) := by decide +kernel
theorem dX7_waysFrom_53 : decode cX7_waysFrom 53 = .ok (.getfield 29, 3) := by decide +kernel
theorem dX7_waysFrom_56 : decode cX7_waysFrom 56 = .ok (.aload_n 0, 1) := by decide +kernel
theorem dX7_waysFrom_57 : decode cX7_waysFrom 57 = .ok (.getfield 10, 3) := by decide +kernel
theorem dX7_waysFrom_60 : decode cX7_waysFrom 60 = .ok (.invokevirtual 198, 3) := by decide +kernel
theorem dX7_waysFrom_63 : decode cX7_waysFrom 63 = .ok (.ifCond .eq 7, 3) := by decide +kernel
theorem dX7_waysFrom_66 : decode cX7_waysFrom 66 = .ok (.iconst 1, 1) := by decide +kernel
theorem dX7_waysFrom_67 : decode cX7_waysFrom 67 = .ok (.goto 4, 3) := by decide +kernel
theorem dX7_waysFrom_70 : decode cX7_waysFrom 70 = .ok (.iconst 0, 1) := by decide +kernel
theorem dX7_waysFrom_71 : decode cX7_waysFrom 71 = .ok (.iadd, 1) := by decide +kernel
theorem dX7_waysFrom_72 : decode cX7_waysFrom 72 = .ok (.istore_n 2, 1) := by decide +kernel
theorem dX7_waysFrom_73 : decode cX7_waysFrom 73 = .ok (.iinc 3 1, 3) := by decide +kernel
theorem dX7_waysFrom_76 : decode cX7_waysFrom 76 = .ok (.goto (-72), 3) := by decide +kernel
theorem dX7_waysFrom_79 : decode cX7_waysFrom 79 = .ok (.iload_n 2, 1) := by decide +kernel
theorem dX7_waysFrom_80 : decode cX7_waysFrom 80 = .ok (.ireturn, 1) := by decide +kernel
theorem dX7_pinCount_0 : decode cX7_pinCount 0 = .ok (.iconst 0, 1) := by decide +kernel
theorem dX7_pinCount_1 : decode cX7_pinCount 1 = .ok (.istore_n 1, 1) := by decide +kernel
theorem dX7_pinCount_2 : decode cX7_pinCount 2 = .ok (.aload_n 0, 1) := by decide +kernel
theorem dX7_pinCount_3 : decode cX7_pinCount 3 = .ok (.getfield 32, 3) := by decide +kernel
theorem dX7_pinCount_6 : decode cX7_pinCount 6 = .ok (.astore_n 2, 1) := by decide +kernel
theorem dX7_pinCount_7 : decode cX7_pinCount 7 = .ok (.aload_n 2, 1) := by decide +kernel
theorem dX7_pinCount_8 : decode cX7_pinCount 8 = .ok (.arraylength, 1) := by decide +kernel
theorem dX7_pinCount_9 : decode cX7_pinCount 9 = .ok (.istore_n 3, 1) := by decide +kernel
theorem dX7_pinCount_10 : decode cX7_pinCount 10 = .ok (.iconst 0, 1) := by decide +kernel
theorem dX7_pinCount_11 : decode cX7_pinCount 11 = .ok (.istore 4, 2) := by decide +kernel
theorem dX7_pinCount_13 : decode cX7_pinCount 13 = .ok (.iload 4, 2) := by decide +kernel
theorem dX7_pinCount_15 : decode cX7_pinCount 15 = .ok (.iload_n 3, 1) := by decide +kernel
theorem dX7_pinCount_16 : decode cX7_pinCount 16 = .ok (.if_icmp .ge 20, 3) := by decide +kernel
theorem dX7_pinCount_19 : decode cX7_pinCount 19 = .ok (.aload_n 2, 1) := by decide +kernel
theorem dX7_pinCount_20 : decode cX7_pinCount 20 = .ok (.iload 4, 2) := by decide +kernel
theorem dX7_pinCount_22 : decode cX7_pinCount 22 = .ok (.iaload, 1) := by decide +kernel
theorem dX7_pinCount_23 : decode cX7_pinCount 23 = .ok (.istore 5, 2) := by decide +kernel
theorem dX7_pinCount_25 : decode cX7_pinCount 25 = .ok (.iload_n 1, 1) := by decide +kernel
theorem dX7_pinCount_26 : decode cX7_pinCount 26 = .ok (.iload 5, 2) := by decide +kernel
theorem dX7_pinCount_28 : decode cX7_pinCount 28 = .ok (.iadd, 1) := by decide +kernel
theorem dX7_pinCount_29 : decode cX7_pinCount 29 = .ok (.istore_n 1, 1) := by decide +kernel
theorem dX7_pinCount_30 : decode cX7_pinCount 30 = .ok (.iinc 4 1, 3) := by decide +kernel
theorem dX7_pinCount_33 : decode cX7_pinCount 33 = .ok (.goto (-20), 3) := by decide +kernel
theorem dX7_pinCount_36 : decode cX7_pinCount 36 = .ok (.iload_n 1, 1) := by decide +kernel
theorem dX7_pinCount_37 : decode cX7_pinCount 37 = .ok (.ireturn, 1) := by decide +kernel
theorem dX7_shelvesUsed_0 : decode cX7_shelvesUsed 0 = .ok (.iconst 0, 1) := by decide +kernel
theorem dX7_shelvesUsed_1 : decode cX7_shelvesUsed 1 = .ok (.istore_n 1, 1) := by decide +kernel
theorem dX7_shelvesUsed_2 : decode cX7_shelvesUsed 2 = .ok (.aload_n 0, 1) := by decide +kernel
theorem dX7_shelvesUsed_3 : decode cX7_shelvesUsed 3 = .ok (.getfield 36, 3) := by decide +kernel
theorem dX7_shelvesUsed_6 : decode cX7_shelvesUsed 6 = .ok (.astore_n 2, 1) := by decide +kernel
theorem dX7_shelvesUsed_7 : decode cX7_shelvesUsed 7 = .ok (.aload_n 2, 1) := by decide +kernel
theorem dX7_shelvesUsed_8 : decode cX7_shelvesUsed 8 = .ok (.arraylength, 1) := by decide +kernel
theorem dX7_shelvesUsed_9 : decode cX7_shelvesUsed 9 = .ok (.istore_n 3, 1) := by decide +kernel
theorem dX7_shelvesUsed_10 : decode cX7_shelvesUsed 10 = .ok (.iconst 0, 1) := by decide +kernel
theorem dX7_shelvesUsed_11 : decode cX7_shelvesUsed 11 = .ok (.istore 4, 2) := by decide +kernel
theorem dX7_shelvesUsed_13 : decode cX7_shelvesUsed 13 = .ok (.iload 4, 2) := by decide +kernel
theorem dX7_shelvesUsed_15 : decode cX7_shelvesUsed 15 = .ok (.iload_n 3, 1) := by decide +kernel
theorem dX7_shelvesUsed_16 : decode cX7_shelvesUsed 16 = .ok (.if_icmp .ge 28, 3) := by decide +kernel
theorem dX7_shelvesUsed_19 : decode cX7_shelvesUsed 19 = .ok (.aload_n 2, 1) := by decide +kernel
theorem dX7_shelvesUsed_20 : decode cX7_shelvesUsed 20 = .ok (.iload 4, 2) := by decide +kernel
theorem dX7_shelvesUsed_22 : decode cX7_shelvesUsed 22 = .ok (.aaload, 1) := by decide +kernel
theorem dX7_shelvesUsed_23 : decode cX7_shelvesUsed 23 = .ok (.astore 5, 2) := by decide +kernel
theorem dX7_shelvesUsed_25 : decode cX7_shelvesUsed 25 = .ok (.iload_n 1, 1) := by decide +kernel
theorem dX7_shelvesUsed_26 : decode cX7_shelvesUsed 26 = .ok (.aload 5, 2) := by decide +kernel
theorem dX7_shelvesUsed_28 : decode cX7_shelvesUsed 28 = .ok (.ifnull 7, 3) := by decide +kernel
theorem dX7_shelvesUsed_31 : decode cX7_shelvesUsed 31 = .ok (.iconst 1, 1) := by decide +kernel
theorem dX7_shelvesUsed_32 : decode cX7_shelvesUsed 32 = .ok (.goto 4, 3) := by decide +kernel
theorem dX7_shelvesUsed_35 : decode cX7_shelvesUsed 35 = .ok (.iconst 0, 1) := by decide +kernel
theorem dX7_shelvesUsed_36 : decode cX7_shelvesUsed 36 = .ok (.iadd, 1) := by decide +kernel
theorem dX7_shelvesUsed_37 : decode cX7_shelvesUsed 37 = .ok (.istore_n 1, 1) := by decide +kernel
theorem dX7_shelvesUsed_38 : decode cX7_shelvesUsed 38 = .ok (.iinc 4 1, 3) := by decide +kernel
theorem dX7_shelvesUsed_41 : decode cX7_shelvesUsed 41 = .ok (.goto (-28), 3) := by decide +kernel
theorem dX7_shelvesUsed_44 : decode cX7_shelvesUsed 44 = .ok (.iload_n 1, 1) := by decide +kernel
theorem dX7_shelvesUsed_45 : decode cX7_shelvesUsed 45 = .ok (.ireturn, 1) := by decide +kernel
theorem dJ9_max_7cf53_0 : decode cJ9_max_7cf53 0 = .ok (.iload_n 0, 1) := by decide +kernel
theorem dJ9_max_7cf53_1 : decode cJ9_max_7cf53 1 = .ok (.iload_n 1, 1) := by decide +kernel
theorem dJ9_max_7cf53_2 : decode cJ9_max_7cf53 2 = .ok (.if_icmp .lt 7, 3) := by decide +kernel
theorem dJ9_max_7cf53_5 : decode cJ9_max_7cf53 5 = .ok (.iload_n 0, 1) := by decide +kernel
theorem dJ9_max_7cf53_6 : decode cJ9_max_7cf53 6 = .ok (.goto 4, 3) := by decide +kernel
theorem dJ9_max_7cf53_9 : decode cJ9_max_7cf53 9 = .ok (.iload_n 1, 1) := by decide +kernel
theorem dJ9_max_7cf53_10 : decode cJ9_max_7cf53 10 = .ok (.ireturn, 1) := by decide +kernel
theorem dJ9_min_7cf53_0 : decode cJ9_min_7cf53 0 = .ok (.iload_n 0, 1) := by decide +kernel
theorem dJ9_min_7cf53_1 : decode cJ9_min_7cf53 1 = .ok (.iload_n 1, 1) := by decide +kernel
theorem dJ9_min_7cf53_2 : decode cJ9_min_7cf53 2 = .ok (.if_icmp .gt 7, 3) := by decide +kernel
theorem dJ9_min_7cf53_5 : decode cJ9_min_7cf53 5 = .ok (.iload_n 0, 1) := by decide +kernel
theorem dJ9_min_7cf53_6 : decode cJ9_min_7cf53 6 = .ok (.goto 4, 3) := by decide +kernel
theorem dJ9_min_7cf53_9 : decode cJ9_min_7cf53 9 = .ok (.iload_n 1, 1) := by decide +kernel
theorem dJ9_min_7cf53_10 : decode cJ9_min_7cf53 10 = .ok (.ireturn, 1) := by decide +kernel
theorem dJ0_length_8abf5_0 : decode cJ0_length_8abf5 0 = .ok (.aload_n 0, 1) := by decide +kernel
theorem dJ0_length_8abf5_1 : decode cJ0_length_8abf5 1 = .ok (.getfield 9, 3) := by decide +kernel
theorem dJ0_length_8abf5_4 : decode cJ0_length_8abf5 4 = .ok (.arraylength, 1) := by decide +kernel
theorem dJ0_length_8abf5_5 : decode cJ0_length_8abf5 5 = .ok (.aload_n 0, 1) := by decide +kernel
theorem dJ0_length_8abf5_6 : decode cJ0_length_8abf5 6 = .ok (.invokevirtual 335, 3) := by decide +kernel
theorem dJ0_length_8abf5_9 : decode cJ0_length_8abf5 9 = .ok (.ishr, 1) := by decide +kernel
theorem dJ0_length_8abf5_10 : decode cJ0_length_8abf5 10 = .ok (.ireturn, 1) := by decide +kernel
theorem dJ0_charAt_5068e_0 : decode cJ0_charAt_5068e 0 = .ok (.aload_n 0, 1) := by decide +kernel
theorem dJ0_charAt_5068e_1 : decode cJ0_charAt_5068e 1 = .ok (.invokevirtual 492, 3) := by decide +kernel
theorem dJ0_charAt_5068e_4 : decode cJ0_charAt_5068e 4 = .ok (.ifCond .eq 12, 3) := by decide +kernel
theorem dJ0_charAt_5068e_7 : decode cJ0_charAt_5068e 7 = .ok (.aload_n 0, 1) := by decide +kernel
theorem dJ0_charAt_5068e_8 : decode cJ0_charAt_5068e 8 = .ok (.getfield 9, 3) := by decide +kernel
theorem dJ0_charAt_5068e_11 : decode cJ0_charAt_5068e 11 = .ok (.iload_n 1, 1) := by decide +kernel
theorem dJ0_charAt_5068e_12 : decode cJ0_charAt_5068e 12 = .ok (.invokestatic 495, 3) := by decide +kernel
theorem dJ0_charAt_5068e_15 : decode cJ0_charAt_5068e 15 = .ok (.ireturn, 1) := by decide +kernel
theorem dJ0_charAt_5068e_16 : decode cJ0_charAt_5068e 16 = .ok (.aload_n 0, 1) := by decide +kernel
theorem dJ0_charAt_5068e_17 : decode cJ0_charAt_5068e 17 = .ok (.getfield 9, 3) := by decide +kernel
theorem dJ0_charAt_5068e_20 : decode cJ0_charAt_5068e 20 = .ok (.iload_n 1, 1) := by decide +kernel
theorem dJ0_charAt_5068e_21 : decode cJ0_charAt_5068e 21 = .ok (.invokestatic 498, 3) := by decide +kernel
theorem dJ0_charAt_5068e_24 : decode cJ0_charAt_5068e 24 = .ok (.ireturn, 1) := by decide +kernel
theorem dJ0_coder_7d493_0 : decode cJ0_coder_7d493 0 = .ok (.getstatic 38, 3) := by decide +kernel
theorem dJ0_coder_7d493_3 : decode cJ0_coder_7d493 3 = .ok (.ifCond .eq 10, 3) := by decide +kernel
theorem dJ0_coder_7d493_6 : decode cJ0_coder_7d493 6 = .ok (.aload_n 0, 1) := by decide +kernel
theorem dJ0_coder_7d493_7 : decode cJ0_coder_7d493 7 = .ok (.getfield 15, 3) := by decide +kernel
theorem dJ0_coder_7d493_10 : decode cJ0_coder_7d493 10 = .ok (.goto 4, 3) := by decide +kernel
theorem dJ0_coder_7d493_13 : decode cJ0_coder_7d493 13 = .ok (.iconst 1, 1) := by decide +kernel
theorem dJ0_coder_7d493_14 : decode cJ0_coder_7d493 14 = .ok (.ireturn, 1) := by decide +kernel
theorem dJ0_isLatin1_aae02_0 : decode cJ0_isLatin1_aae02 0 = .ok (.getstatic 38, 3) := by decide +kernel
theorem dJ0_isLatin1_aae02_3 : decode cJ0_isLatin1_aae02 3 = .ok (.ifCond .eq 14, 3) := by decide +kernel
theorem dJ0_isLatin1_aae02_6 : decode cJ0_isLatin1_aae02 6 = .ok (.aload_n 0, 1) := by decide +kernel
theorem dJ0_isLatin1_aae02_7 : decode cJ0_isLatin1_aae02 7 = .ok (.getfield 15, 3) := by decide +kernel
theorem dJ0_isLatin1_aae02_10 : decode cJ0_isLatin1_aae02 10 = .ok (.ifCond .ne 7, 3) := by decide +kernel
theorem dJ0_isLatin1_aae02_13 : decode cJ0_isLatin1_aae02 13 = .ok (.iconst 1, 1) := by decide +kernel
theorem dJ0_isLatin1_aae02_14 : decode cJ0_isLatin1_aae02 14 = .ok (.goto 4, 3) := by decide +kernel
theorem dJ0_isLatin1_aae02_17 : decode cJ0_isLatin1_aae02 17 = .ok (.iconst 0, 1) := by decide +kernel
theorem dJ0_isLatin1_aae02_18 : decode cJ0_isLatin1_aae02 18 = .ok (.ireturn, 1) := by decide +kernel
theorem dJ0_checkIndex_df160_0 : decode cJ0_checkIndex_df160 0 = .ok (.iload_n 0, 1) := by decide +kernel
theorem dJ0_checkIndex_df160_1 : decode cJ0_checkIndex_df160 1 = .ok (.iload_n 1, 1) := by decide +kernel
theorem dJ0_checkIndex_df160_2 : decode cJ0_checkIndex_df160 2 = .ok (.getstatic 1053, 3) := by decide +kernel
theorem dJ0_checkIndex_df160_5 : decode cJ0_checkIndex_df160 5 = .ok (.invokestatic 1059, 3) := by decide +kernel
theorem dJ0_checkIndex_df160_8 : decode cJ0_checkIndex_df160 8 = .ok (.pop, 1) := by decide +kernel
theorem dJ0_checkIndex_df160_9 : decode cJ0_checkIndex_df160 9 = .ok (.return_, 1) := by decide +kernel
theorem dJ1_charAt_3b067_0 : decode cJ1_charAt_3b067 0 = .ok (.iload_n 1, 1) := by decide +kernel
theorem dJ1_charAt_3b067_1 : decode cJ1_charAt_3b067 1 = .ok (.aload_n 0, 1) := by decide +kernel
theorem dJ1_charAt_3b067_2 : decode cJ1_charAt_3b067 2 = .ok (.arraylength, 1) := by decide +kernel
theorem dJ1_charAt_3b067_3 : decode cJ1_charAt_3b067 3 = .ok (.invokestatic 9, 3) := by decide +kernel
theorem dJ1_charAt_3b067_6 : decode cJ1_charAt_3b067 6 = .ok (.aload_n 0, 1) := by decide +kernel
theorem dJ1_charAt_3b067_7 : decode cJ1_charAt_3b067 7 = .ok (.iload_n 1, 1) := by decide +kernel
theorem dJ1_charAt_3b067_8 : decode cJ1_charAt_3b067 8 = .ok (.baload, 1) := by decide +kernel
theorem dJ1_charAt_3b067_9 : decode cJ1_charAt_3b067 9 = .ok (.sipush 255, 3) := by decide +kernel
theorem dJ1_charAt_3b067_12 : decode cJ1_charAt_3b067 12 = .ok (.iand, 1) := by decide +kernel
theorem dJ1_charAt_3b067_13 : decode cJ1_charAt_3b067 13 = .ok (.i2c, 1) := by decide +kernel
theorem dJ1_charAt_3b067_14 : decode cJ1_charAt_3b067 14 = .ok (.ireturn, 1) := by decide +kernel
theorem dJ2_getChar_3b067_0 : decode cJ2_getChar_3b067 0 = .ok (.getstatic 44, 3) := by decide +kernel
theorem dJ2_getChar_3b067_3 : decode cJ2_getChar_3b067 3 = .ok (.ifCond .ne 25, 3) := by decide +kernel
theorem dJ2_getChar_3b067_6 : decode cJ2_getChar_3b067 6 = .ok (.iload_n 1, 1) := by decide +kernel
theorem dJ2_getChar_3b067_7 : decode cJ2_getChar_3b067 7 = .ok (.ifCond .lt 11, 3) := by decide +kernel
theorem dJ2_getChar_3b067_10 : decode cJ2_getChar_3b067 10 = .ok (.iload_n 1, 1) := by decide +kernel
theorem dJ2_getChar_3b067_11 : decode cJ2_getChar_3b067 11 = .ok (.aload_n 0, 1) := by decide +kernel
theorem dJ2_getChar_3b067_12 : decode cJ2_getChar_3b067 12 = .ok (.invokestatic 48, 3) := by decide +kernel
theorem dJ2_getChar_3b067_15 : decode cJ2_getChar_3b067 15 = .ok (.if_icmp .lt 13, 3) := by decide +kernel
theorem dJ2_getChar_3b067_18 : decode cJ2_getChar_3b067 18 = .ok (.new 52, 3) := by decide +kernel
theorem dJ2_getChar_3b067_21 : decode cJ2_getChar_3b067 21 = .ok (.dup, 1) := by decide +kernel
theorem dJ2_getChar_3b067_22 : decode cJ2_getChar_3b067 22 = .ok (.ldc 54, 2) := by decide +kernel
theorem dJ2_getChar_3b067_24 : decode cJ2_getChar_3b067 24 = .ok (.invokespecial 56, 3) := by decide +kernel
theorem dJ2_getChar_3b067_27 : decode cJ2_getChar_3b067 27 = .ok (.athrow, 1) := by decide +kernel
theorem dJ2_getChar_3b067_28 : decode cJ2_getChar_3b067 28 = .ok (.iload_n 1, 1) := by decide +kernel
theorem dJ2_getChar_3b067_29 : decode cJ2_getChar_3b067 29 = .ok (.iconst 1, 1) := by decide +kernel
theorem dJ2_getChar_3b067_30 : decode cJ2_getChar_3b067 30 = .ok (.ishl, 1) := by decide +kernel
theorem dJ2_getChar_3b067_31 : decode cJ2_getChar_3b067 31 = .ok (.istore_n 1, 1) := by decide +kernel
theorem dJ2_getChar_3b067_32 : decode cJ2_getChar_3b067 32 = .ok (.aload_n 0, 1) := by decide +kernel
theorem dJ2_getChar_3b067_33 : decode cJ2_getChar_3b067 33 = .ok (.iload_n 1, 1) := by decide +kernel
theorem dJ2_getChar_3b067_34 : decode cJ2_getChar_3b067 34 = .ok (.iinc 1 1, 3) := by decide +kernel
theorem dJ2_getChar_3b067_37 : decode cJ2_getChar_3b067 37 = .ok (.baload, 1) := by decide +kernel
theorem dJ2_getChar_3b067_38 : decode cJ2_getChar_3b067 38 = .ok (.sipush 255, 3) := by decide +kernel
theorem dJ2_getChar_3b067_41 : decode cJ2_getChar_3b067 41 = .ok (.iand, 1) := by decide +kernel
theorem dJ2_getChar_3b067_42 : decode cJ2_getChar_3b067 42 = .ok (.getstatic 59, 3) := by decide +kernel
theorem dJ2_getChar_3b067_45 : decode cJ2_getChar_3b067 45 = .ok (.ishl, 1) := by decide +kernel
theorem dJ2_getChar_3b067_46 : decode cJ2_getChar_3b067 46 = .ok (.aload_n 0, 1) := by decide +kernel
theorem dJ2_getChar_3b067_47 : decode cJ2_getChar_3b067 47 = .ok (.iload_n 1, 1) := by decide +kernel
theorem dJ2_getChar_3b067_48 : decode cJ2_getChar_3b067 48 = .ok (.baload, 1) := by decide +kernel
theorem dJ2_getChar_3b067_49 : decode cJ2_getChar_3b067 49 = .ok (.sipush 255, 3) := by decide +kernel
theorem dJ2_getChar_3b067_52 : decode cJ2_getChar_3b067 52 = .ok (.iand, 1) := by decide +kernel
theorem dJ2_getChar_3b067_53 : decode cJ2_getChar_3b067 53 = .ok (.getstatic 63, 3) := by decide +kernel
theorem dJ2_getChar_3b067_56 : decode cJ2_getChar_3b067 56 = .ok (.ishl, 1) := by decide +kernel
theorem dJ2_getChar_3b067_57 : decode cJ2_getChar_3b067 57 = .ok (.ior, 1) := by decide +kernel
theorem dJ2_getChar_3b067_58 : decode cJ2_getChar_3b067 58 = .ok (.i2c, 1) := by decide +kernel
theorem dJ2_getChar_3b067_59 : decode cJ2_getChar_3b067 59 = .ok (.ireturn, 1) := by decide +kernel
theorem dJ2_length_9d52b_0 : decode cJ2_length_9d52b 0 = .ok (.aload_n 0, 1) := by decide +kernel
theorem dJ2_length_9d52b_1 : decode cJ2_length_9d52b 1 = .ok (.arraylength, 1) := by decide +kernel
theorem dJ2_length_9d52b_2 : decode cJ2_length_9d52b 2 = .ok (.iconst 1, 1) := by decide +kernel
theorem dJ2_length_9d52b_3 : decode cJ2_length_9d52b 3 = .ok (.ishr, 1) := by decide +kernel
theorem dJ2_length_9d52b_4 : decode cJ2_length_9d52b 4 = .ok (.ireturn, 1) := by decide +kernel
theorem dJ2_charAt_3b067_0 : decode cJ2_charAt_3b067 0 = .ok (.iload_n 1, 1) := by decide +kernel
theorem dJ2_charAt_3b067_1 : decode cJ2_charAt_3b067 1 = .ok (.aload_n 0, 1) := by decide +kernel
theorem dJ2_charAt_3b067_2 : decode cJ2_charAt_3b067 2 = .ok (.invokestatic 67, 3) := by decide +kernel
theorem dJ2_charAt_3b067_5 : decode cJ2_charAt_3b067 5 = .ok (.aload_n 0, 1) := by decide +kernel
theorem dJ2_charAt_3b067_6 : decode cJ2_charAt_3b067 6 = .ok (.iload_n 1, 1) := by decide +kernel
theorem dJ2_charAt_3b067_7 : decode cJ2_charAt_3b067 7 = .ok (.invokestatic 71, 3) := by decide +kernel
theorem dJ2_charAt_3b067_10 : decode cJ2_charAt_3b067 10 = .ok (.ireturn, 1) := by decide +kernel
theorem dJ2_checkIndex_2214a_0 : decode cJ2_checkIndex_2214a 0 = .ok (.iload_n 0, 1) := by decide +kernel
theorem dJ2_checkIndex_2214a_1 : decode cJ2_checkIndex_2214a 1 = .ok (.aload_n 1, 1) := by decide +kernel
theorem dJ2_checkIndex_2214a_2 : decode cJ2_checkIndex_2214a 2 = .ok (.invokestatic 48, 3) := by decide +kernel
theorem dJ2_checkIndex_2214a_5 : decode cJ2_checkIndex_2214a 5 = .ok (.invokestatic 414, 3) := by decide +kernel
theorem dJ2_checkIndex_2214a_8 : decode cJ2_checkIndex_2214a 8 = .ok (.return_, 1) := by decide +kernel
theorem dJ7_fill_53178_0 : decode cJ7_fill_53178 0 = .ok (.iconst 0, 1) := by decide +kernel
theorem dJ7_fill_53178_1 : decode cJ7_fill_53178 1 = .ok (.istore_n 2, 1) := by decide +kernel
theorem dJ7_fill_53178_2 : decode cJ7_fill_53178 2 = .ok (.aload_n 0, 1) := by decide +kernel
theorem dJ7_fill_53178_3 : decode cJ7_fill_53178 3 = .ok (.arraylength, 1) := by decide +kernel
theorem dJ7_fill_53178_4 : decode cJ7_fill_53178 4 = .ok (.istore_n 3, 1) := by decide +kernel
theorem dJ7_fill_53178_5 : decode cJ7_fill_53178 5 = .ok (.iload_n 2, 1) := by decide +kernel
theorem dJ7_fill_53178_6 : decode cJ7_fill_53178 6 = .ok (.iload_n 3, 1) := by decide +kernel
theorem dJ7_fill_53178_7 : decode cJ7_fill_53178 7 = .ok (.if_icmp .ge 13, 3) := by decide +kernel
theorem dJ7_fill_53178_10 : decode cJ7_fill_53178 10 = .ok (.aload_n 0, 1) := by decide +kernel
theorem dJ7_fill_53178_11 : decode cJ7_fill_53178 11 = .ok (.iload_n 2, 1) := by decide +kernel
theorem dJ7_fill_53178_12 : decode cJ7_fill_53178 12 = .ok (.iload_n 1, 1) := by decide +kernel
theorem dJ7_fill_53178_13 : decode cJ7_fill_53178 13 = .ok (.iastore, 1) := by decide +kernel
theorem dJ7_fill_53178_14 : decode cJ7_fill_53178 14 = .ok (.iinc 2 1, 3) := by decide +kernel
theorem dJ7_fill_53178_17 : decode cJ7_fill_53178 17 = .ok (.goto (-12), 3) := by decide +kernel
theorem dJ7_fill_53178_20 : decode cJ7_fill_53178 20 = .ok (.return_, 1) := by decide +kernel
theorem dJ3_checkIndex_8e157_0 : decode cJ3_checkIndex_8e157 0 = .ok (.iload_n 0, 1) := by decide +kernel
theorem dJ3_checkIndex_8e157_1 : decode cJ3_checkIndex_8e157 1 = .ok (.ifCond .lt 8, 3) := by decide +kernel
theorem dJ3_checkIndex_8e157_4 : decode cJ3_checkIndex_8e157 4 = .ok (.iload_n 0, 1) := by decide +kernel
theorem dJ3_checkIndex_8e157_5 : decode cJ3_checkIndex_8e157 5 = .ok (.iload_n 1, 1) := by decide +kernel
theorem dJ3_checkIndex_8e157_6 : decode cJ3_checkIndex_8e157 6 = .ok (.if_icmp .lt 10, 3) := by decide +kernel
theorem dJ3_checkIndex_8e157_9 : decode cJ3_checkIndex_8e157 9 = .ok (.aload_n 2, 1) := by decide +kernel
theorem dJ3_checkIndex_8e157_10 : decode cJ3_checkIndex_8e157 10 = .ok (.iload_n 0, 1) := by decide +kernel
theorem dJ3_checkIndex_8e157_11 : decode cJ3_checkIndex_8e157 11 = .ok (.iload_n 1, 1) := by decide +kernel
theorem dJ3_checkIndex_8e157_12 : decode cJ3_checkIndex_8e157 12 = .ok (.invokestatic 95, 3) := by decide +kernel
theorem dJ3_checkIndex_8e157_15 : decode cJ3_checkIndex_8e157 15 = .ok (.athrow, 1) := by decide +kernel
theorem dJ3_checkIndex_8e157_16 : decode cJ3_checkIndex_8e157 16 = .ok (.iload_n 0, 1) := by decide +kernel
theorem dJ3_checkIndex_8e157_17 : decode cJ3_checkIndex_8e157 17 = .ok (.ireturn, 1) := by decide +kernel
