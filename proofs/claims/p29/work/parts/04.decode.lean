theorem dX0_init_0 : decode cX0_init 0 = .ok (.aload_n 0, 1) := by decide +kernel
theorem dX0_init_1 : decode cX0_init 1 = .ok (.invokespecial 1, 3) := by decide +kernel
theorem dX0_init_4 : decode cX0_init 4 = .ok (.aload_n 0, 1) := by decide +kernel
theorem dX0_init_5 : decode cX0_init 5 = .ok (.iload_n 1, 1) := by decide +kernel
theorem dX0_init_6 : decode cX0_init 6 = .ok (.putfield 7, 3) := by decide +kernel
theorem dX0_init_9 : decode cX0_init 9 = .ok (.aload_n 0, 1) := by decide +kernel
theorem dX0_init_10 : decode cX0_init 10 = .ok (.iload_n 2, 1) := by decide +kernel
theorem dX0_init_11 : decode cX0_init 11 = .ok (.putfield 13, 3) := by decide +kernel
theorem dX0_init_14 : decode cX0_init 14 = .ok (.return_, 1) := by decide +kernel
theorem dX1_init_0 : decode cX1_init 0 = .ok (.aload_n 0, 1) := by decide +kernel
theorem dX1_init_1 : decode cX1_init 1 = .ok (.invokespecial 3, 3) := by decide +kernel
theorem dX1_init_4 : decode cX1_init 4 = .ok (.aload_n 0, 1) := by decide +kernel
theorem dX1_init_5 : decode cX1_init 5 = .ok (.bipush 60, 2) := by decide +kernel
theorem dX1_init_7 : decode cX1_init 7 = .ok (.newarray .int, 2) := by decide +kernel
theorem dX1_init_9 : decode cX1_init 9 = .ok (.putfield 9, 3) := by decide +kernel
theorem dX1_init_12 : decode cX1_init 12 = .ok (.aload_n 0, 1) := by decide +kernel
theorem dX1_init_13 : decode cX1_init 13 = .ok (.iconst 0, 1) := by decide +kernel
theorem dX1_init_14 : decode cX1_init 14 = .ok (.putfield 15, 3) := by decide +kernel
theorem dX1_init_17 : decode cX1_init 17 = .ok (.return_, 1) := by decide +kernel
theorem dX1_append_0 : decode cX1_append 0 = .ok (.aload_n 0, 1) := by decide +kernel
theorem dX1_append_1 : decode cX1_append 1 = .ok (.getfield 9, 3) := by decide +kernel
theorem dX1_append_4 : decode cX1_append 4 = .ok (.aload_n 0, 1) := by decide +kernel
theorem dX1_append_5 : decode cX1_append 5 = .ok (.getfield 15, 3) := by decide +kernel
theorem dX1_append_8 : decode cX1_append 8 = .ok (.iload_n 1, 1) := by decide +kernel
theorem dX1_append_9 : decode cX1_append 9 = .ok (.iastore, 1) := by decide +kernel
theorem dX1_append_10 : decode cX1_append 10 = .ok (.aload_n 0, 1) := by decide +kernel
theorem dX1_append_11 : decode cX1_append 11 = .ok (.dup, 1) := by decide +kernel
theorem dX1_append_12 : decode cX1_append 12 = .ok (.getfield 15, 3) := by decide +kernel
theorem dX1_append_15 : decode cX1_append 15 = .ok (.iconst 1, 1) := by decide +kernel
theorem dX1_append_16 : decode cX1_append 16 = .ok (.iadd, 1) := by decide +kernel
theorem dX1_append_17 : decode cX1_append 17 = .ok (.putfield 15, 3) := by decide +kernel
theorem dX1_append_20 : decode cX1_append 20 = .ok (.return_, 1) := by decide +kernel
theorem dX1_remove_0 : decode cX1_remove 0 = .ok (.aload_n 0, 1) := by decide +kernel
theorem dX1_remove_1 : decode cX1_remove 1 = .ok (.dup, 1) := by decide +kernel
theorem dX1_remove_2 : decode cX1_remove 2 = .ok (.getfield 15, 3) := by decide +kernel
theorem dX1_remove_5 : decode cX1_remove 5 = .ok (.iconst 1, 1) := by decide +kernel
theorem dX1_remove_6 : decode cX1_remove 6 = .ok (.isub, 1) := by decide +kernel
theorem dX1_remove_7 : decode cX1_remove 7 = .ok (.putfield 15, 3) := by decide +kernel
theorem dX1_remove_10 : decode cX1_remove 10 = .ok (.iload_n 1, 1) := by decide +kernel
theorem dX1_remove_11 : decode cX1_remove 11 = .ok (.istore_n 2, 1) := by decide +kernel
theorem dX1_remove_12 : decode cX1_remove 12 = .ok (.iload_n 2, 1) := by decide +kernel
theorem dX1_remove_13 : decode cX1_remove 13 = .ok (.aload_n 0, 1) := by decide +kernel
theorem dX1_remove_14 : decode cX1_remove 14 = .ok (.getfield 15, 3) := by decide +kernel
theorem dX1_remove_17 : decode cX1_remove 17 = .ok (.if_icmp .ge 23, 3) := by decide +kernel
theorem dX1_remove_20 : decode cX1_remove 20 = .ok (.aload_n 0, 1) := by decide +kernel
theorem dX1_remove_21 : decode cX1_remove 21 = .ok (.getfield 9, 3) := by decide +kernel
theorem dX1_remove_24 : decode cX1_remove 24 = .ok (.iload_n 2, 1) := by decide +kernel
theorem dX1_remove_25 : decode cX1_remove 25 = .ok (.aload_n 0, 1) := by decide +kernel
theorem dX1_remove_26 : decode cX1_remove 26 = .ok (.getfield 9, 3) := by decide +kernel
theorem dX1_remove_29 : decode cX1_remove 29 = .ok (.iload_n 2, 1) := by decide +kernel
theorem dX1_remove_30 : decode cX1_remove 30 = .ok (.iconst 1, 1) := by decide +kernel
theorem dX1_remove_31 : decode cX1_remove 31 = .ok (.iadd, 1) := by decide +kernel
theorem dX1_remove_32 : decode cX1_remove 32 = .ok (.iaload, 1) := by decide +kernel
theorem dX1_remove_33 : decode cX1_remove 33 = .ok (.iastore, 1) := by decide +kernel
theorem dX1_remove_34 : decode cX1_remove 34 = .ok (.iinc 2 1, 3) := by decide +kernel
theorem dX1_remove_37 : decode cX1_remove 37 = .ok (.goto (-25), 3) := by decide +kernel
theorem dX1_remove_40 : decode cX1_remove 40 = .ok (.return_, 1) := by decide +kernel
theorem dX1_placeOf_0 : decode cX1_placeOf 0 = .ok (.iconst 0, 1) := by decide +kernel
theorem dX1_placeOf_1 : decode cX1_placeOf 1 = .ok (.istore_n 2, 1) := by decide +kernel
theorem dX1_placeOf_2 : decode cX1_placeOf 2 = .ok (.iload_n 2, 1) := by decide +kernel
theorem dX1_placeOf_3 : decode cX1_placeOf 3 = .ok (.aload_n 0, 1) := by decide +kernel
theorem dX1_placeOf_4 : decode cX1_placeOf 4 = .ok (.getfield 15, 3) := by decide +kernel
theorem dX1_placeOf_7 : decode cX1_placeOf 7 = .ok (.if_icmp .ge 21, 3) := by decide +kernel
theorem dX1_placeOf_10 : decode cX1_placeOf 10 = .ok (.aload_n 0, 1) := by decide +kernel
theorem dX1_placeOf_11 : decode cX1_placeOf 11 = .ok (.getfield 9, 3) := by decide +kernel
theorem dX1_placeOf_14 : decode cX1_placeOf 14 = .ok (.iload_n 2, 1) := by decide +kernel
theorem dX1_placeOf_15 : decode cX1_placeOf 15 = .ok (.iaload, 1) := by decide +kernel
theorem dX1_placeOf_16 : decode cX1_placeOf 16 = .ok (.iload_n 1, 1) := by decide +kernel
theorem dX1_placeOf_17 : decode cX1_placeOf 17 = .ok (.if_icmp .ne 5, 3) := by decide +kernel
theorem dX1_placeOf_20 : decode cX1_placeOf 20 = .ok (.iload_n 2, 1) := by decide +kernel
theorem dX1_placeOf_21 : decode cX1_placeOf 21 = .ok (.ireturn, 1) := by decide +kernel
theorem dX1_placeOf_22 : decode cX1_placeOf 22 = .ok (.iinc 2 1, 3) := by decide +kernel
theorem dX1_placeOf_25 : decode cX1_placeOf 25 = .ok (.goto (-23), 3) := by decide +kernel
theorem dX1_placeOf_28 : decode cX1_placeOf 28 = .ok (.iconst (-1), 1) := by decide +kernel
theorem dX1_placeOf_29 : decode cX1_placeOf 29 = .ok (.ireturn, 1) := by decide +kernel
theorem dX1_exchange_0 : decode cX1_exchange 0 = .ok (.aload_n 0, 1) := by decide +kernel
theorem dX1_exchange_1 : decode cX1_exchange 1 = .ok (.getfield 9, 3) := by decide +kernel
theorem dX1_exchange_4 : decode cX1_exchange 4 = .ok (.iload_n 1, 1) := by decide +kernel
theorem dX1_exchange_5 : decode cX1_exchange 5 = .ok (.iaload, 1) := by decide +kernel
theorem dX1_exchange_6 : decode cX1_exchange 6 = .ok (.istore_n 3, 1) := by decide +kernel
theorem dX1_exchange_7 : decode cX1_exchange 7 = .ok (.aload_n 0, 1) := by decide +kernel
theorem dX1_exchange_8 : decode cX1_exchange 8 = .ok (.getfield 9, 3) := by decide +kernel
theorem dX1_exchange_11 : decode cX1_exchange 11 = .ok (.iload_n 1, 1) := by decide +kernel
theorem dX1_exchange_12 : decode cX1_exchange 12 = .ok (.aload_n 0, 1) := by decide +kernel
theorem dX1_exchange_13 : decode cX1_exchange 13 = .ok (.getfield 9, 3) := by decide +kernel
theorem dX1_exchange_16 : decode cX1_exchange 16 = .ok (.iload_n 2, 1) := by decide +kernel
theorem dX1_exchange_17 : decode cX1_exchange 17 = .ok (.iaload, 1) := by decide +kernel
theorem dX1_exchange_18 : decode cX1_exchange 18 = .ok (.iastore, 1) := by decide +kernel
theorem dX1_exchange_19 : decode cX1_exchange 19 = .ok (.aload_n 0, 1) := by decide +kernel
theorem dX1_exchange_20 : decode cX1_exchange 20 = .ok (.getfield 9, 3) := by decide +kernel
theorem dX1_exchange_23 : decode cX1_exchange 23 = .ok (.iload_n 2, 1) := by decide +kernel
theorem dX1_exchange_24 : decode cX1_exchange 24 = .ok (.iload_n 3, 1) := by decide +kernel
theorem dX1_exchange_25 : decode cX1_exchange 25 = .ok (.iastore, 1) := by decide +kernel
theorem dX1_exchange_26 : decode cX1_exchange 26 = .ok (.return_, 1) := by decide +kernel
theorem dX2_init_0 : decode cX2_init 0 = .ok (.aload_n 0, 1) := by decide +kernel
theorem dX2_init_1 : decode cX2_init 1 = .ok (.invokespecial 3, 3) := by decide +kernel
theorem dX2_init_4 : decode cX2_init 4 = .ok (.aload_n 0, 1) := by decide +kernel
theorem dX2_init_5 : decode cX2_init 5 = .ok (.iconst 0, 1) := by decide +kernel
theorem dX2_init_6 : decode cX2_init 6 = .ok (.putfield 9, 3) := by decide +kernel
theorem dX2_init_9 : decode cX2_init 9 = .ok (.aload_n 0, 1) := by decide +kernel
theorem dX2_init_10 : decode cX2_init 10 = .ok (.iconst (-1), 1) := by decide +kernel
theorem dX2_init_11 : decode cX2_init 11 = .ok (.putfield 15, 3) := by decide +kernel
theorem dX2_init_14 : decode cX2_init 14 = .ok (.aload_n 0, 1) := by decide +kernel
theorem dX2_init_15 : decode cX2_init 15 = .ok (.iconst 0, 1) := by decide +kernel
theorem dX2_init_16 : decode cX2_init 16 = .ok (.putfield 18, 3) := by decide +kernel
theorem dX2_init_19 : decode cX2_init 19 = .ok (.aload_n 0, 1) := by decide +kernel
theorem dX2_init_20 : decode cX2_init 20 = .ok (.bipush 8, 2) := by decide +kernel
theorem dX2_init_22 : decode cX2_init 22 = .ok (.newarray .int, 2) := by decide +kernel
theorem dX2_init_24 : decode cX2_init 24 = .ok (.putfield 21, 3) := by decide +kernel
theorem dX2_init_27 : decode cX2_init 27 = .ok (.return_, 1) := by decide +kernel
theorem dX2_none_0 : decode cX2_none 0 = .ok (.aload_n 0, 1) := by decide +kernel
theorem dX2_none_1 : decode cX2_none 1 = .ok (.iconst 0, 1) := by decide +kernel
theorem dX2_none_2 : decode cX2_none 2 = .ok (.putfield 9, 3) := by decide +kernel
theorem dX2_none_5 : decode cX2_none 5 = .ok (.aload_n 0, 1) := by decide +kernel
theorem dX2_none_6 : decode cX2_none 6 = .ok (.iconst (-1), 1) := by decide +kernel
theorem dX2_none_7 : decode cX2_none 7 = .ok (.putfield 15, 3) := by decide +kernel
theorem dX2_none_10 : decode cX2_none 10 = .ok (.aload_n 0, 1) := by decide +kernel
theorem dX2_none_11 : decode cX2_none 11 = .ok (.iconst 0, 1) := by decide +kernel
theorem dX2_none_12 : decode cX2_none 12 = .ok (.putfield 18, 3) := by decide +kernel
theorem dX2_none_15 : decode cX2_none 15 = .ok (.return_, 1) := by decide +kernel
theorem dX2_own_0 : decode cX2_own 0 = .ok (.aload_n 0, 1) := by decide +kernel
theorem dX2_own_1 : decode cX2_own 1 = .ok (.iload_n 1, 1) := by decide +kernel
theorem dX2_own_2 : decode cX2_own 2 = .ok (.putfield 18, 3) := by decide +kernel
theorem dX2_own_5 : decode cX2_own 5 = .ok (.aload_n 0, 1) := by decide +kernel
theorem dX2_own_6 : decode cX2_own 6 = .ok (.bipush 7, 2) := by decide +kernel
theorem dX2_own_8 : decode cX2_own 8 = .ok (.iload_n 2, 1) := by decide +kernel
theorem dX2_own_9 : decode cX2_own 9 = .ok (.invokevirtual 25, 3) := by decide +kernel
theorem dX2_own_12 : decode cX2_own 12 = .ok (.ireturn, 1) := by decide +kernel
theorem dX2_inNoPart_0 : decode cX2_inNoPart 0 = .ok (.aload_n 0, 1) := by decide +kernel
theorem dX2_inNoPart_1 : decode cX2_inNoPart 1 = .ok (.iload_n 1, 1) := by decide +kernel
theorem dX2_inNoPart_2 : decode cX2_inNoPart 2 = .ok (.iconst (-1), 1) := by decide +kernel
theorem dX2_inNoPart_3 : decode cX2_inNoPart 3 = .ok (.invokevirtual 25, 3) := by decide +kernel
theorem dX2_inNoPart_6 : decode cX2_inNoPart 6 = .ok (.ireturn, 1) := by decide +kernel
theorem dX2_inPart_0 : decode cX2_inPart 0 = .ok (.aload_n 0, 1) := by decide +kernel
theorem dX2_inPart_1 : decode cX2_inPart 1 = .ok (.iload_n 1, 1) := by decide +kernel
theorem dX2_inPart_2 : decode cX2_inPart 2 = .ok (.putfield 9, 3) := by decide +kernel
theorem dX2_inPart_5 : decode cX2_inPart 5 = .ok (.aload_n 0, 1) := by decide +kernel
theorem dX2_inPart_6 : decode cX2_inPart 6 = .ok (.iload_n 2, 1) := by decide +kernel
theorem dX2_inPart_7 : decode cX2_inPart 7 = .ok (.putfield 15, 3) := by decide +kernel
theorem dX2_inPart_10 : decode cX2_inPart 10 = .ok (.aload_n 0, 1) := by decide +kernel
theorem dX2_inPart_11 : decode cX2_inPart 11 = .ok (.getfield 21, 3) := by decide +kernel
theorem dX2_inPart_14 : decode cX2_inPart 14 = .ok (.iload_n 1, 1) := by decide +kernel
theorem dX2_inPart_15 : decode cX2_inPart 15 = .ok (.dup2, 1) := by decide +kernel
theorem dX2_inPart_16 : decode cX2_inPart 16 = .ok (.iaload, 1) := by decide +kernel
theorem dX2_inPart_17 : decode cX2_inPart 17 = .ok (.iconst 1, 1) := by decide +kernel
theorem dX2_inPart_18 : decode cX2_inPart 18 = .ok (.iadd, 1) := by decide +kernel
theorem dX2_inPart_19 : decode cX2_inPart 19 = .ok (.iastore, 1) := by decide +kernel
theorem dX2_inPart_20 : decode cX2_inPart 20 = .ok (.bipush (-4), 2) := by decide +kernel
theorem dX2_inPart_22 : decode cX2_inPart 22 = .ok (.ireturn, 1) := by decide +kernel
theorem dX2_everOf_0 : decode cX2_everOf 0 = .ok (.iload_n 1, 1) := by decide +kernel
theorem dX2_everOf_1 : decode cX2_everOf 1 = .ok (.iconst 1, 1) := by decide +kernel
theorem dX2_everOf_2 : decode cX2_everOf 2 = .ok (.if_icmp .lt 18, 3) := by decide +kernel
theorem dX2_everOf_5 : decode cX2_everOf 5 = .ok (.iload_n 1, 1) := by decide +kernel
theorem dX2_everOf_6 : decode cX2_everOf 6 = .ok (.bipush 7, 2) := by decide +kernel
theorem dX2_everOf_8 : decode cX2_everOf 8 = .ok (.if_icmp .gt 12, 3) := by decide +kernel
theorem dX2_everOf_11 : decode cX2_everOf 11 = .ok (.aload_n 0, 1) := by decide +kernel
theorem dX2_everOf_12 : decode cX2_everOf 12 = .ok (.getfield 21, 3) := by decide +kernel
theorem dX2_everOf_15 : decode cX2_everOf 15 = .ok (.iload_n 1, 1) := by decide +kernel
theorem dX2_everOf_16 : decode cX2_everOf 16 = .ok (.iaload, 1) := by decide +kernel
theorem dX2_everOf_17 : decode cX2_everOf 17 = .ok (.goto 5, 3) := by decide +kernel
theorem dX2_everOf_20 : decode cX2_everOf 20 = .ok (.bipush (-2), 2) := by decide +kernel
theorem dX2_everOf_22 : decode cX2_everOf 22 = .ok (.ireturn, 1) := by decide +kernel
theorem dX3_init_0 : decode cX3_init 0 = .ok (.aload_n 0, 1) := by decide +kernel
theorem dX3_init_1 : decode cX3_init 1 = .ok (.invokespecial 3, 3) := by decide +kernel
theorem dX3_init_4 : decode cX3_init 4 = .ok (.aload_n 0, 1) := by decide +kernel
theorem dX3_init_5 : decode cX3_init 5 = .ok (.iconst 4, 1) := by decide +kernel
theorem dX3_init_6 : decode cX3_init 6 = .ok (.newarray .int, 2) := by decide +kernel
theorem dX3_init_8 : decode cX3_init 8 = .ok (.putfield 11, 3) := by decide +kernel
theorem dX3_init_11 : decode cX3_init 11 = .ok (.aload_n 0, 1) := by decide +kernel
theorem dX3_init_12 : decode cX3_init 12 = .ok (.iconst 0, 1) := by decide +kernel
theorem dX3_init_13 : decode cX3_init 13 = .ok (.putfield 15, 3) := by decide +kernel
theorem dX3_init_16 : decode cX3_init 16 = .ok (.iconst 0, 1) := by decide +kernel
theorem dX3_init_17 : decode cX3_init 17 = .ok (.istore_n 2, 1) := by decide +kernel
theorem dX3_init_18 : decode cX3_init 18 = .ok (.iload_n 2, 1) := by decide +kernel
theorem dX3_init_19 : decode cX3_init 19 = .ok (.aload_n 1, 1) := by decide +kernel
theorem dX3_init_20 : decode cX3_init 20 = .ok (.arraylength, 1) := by decide +kernel
theorem dX3_init_21 : decode cX3_init 21 = .ok (.if_icmp .ge 46, 3) := by decide +kernel
theorem dX3_init_24 : decode cX3_init 24 = .ok (.aload_n 0, 1) := by decide +kernel
theorem dX3_init_25 : decode cX3_init 25 = .ok (.getfield 15, 3) := by decide +kernel
theorem dX3_init_28 : decode cX3_init 28 = .ok (.iconst 4, 1) := by decide +kernel
theorem dX3_init_29 : decode cX3_init 29 = .ok (.if_icmp .ge 38, 3) := by decide +kernel
theorem dX3_init_32 : decode cX3_init 32 = .ok (.aload_n 1, 1) := by decide +kernel
theorem dX3_init_33 : decode cX3_init 33 = .ok (.iload_n 2, 1) := by decide +kernel
theorem dX3_init_34 : decode cX3_init 34 = .ok (.iaload, 1) := by decide +kernel
theorem dX3_init_35 : decode cX3_init 35 = .ok (.iconst (-1), 1) := by decide +kernel
theorem dX3_init_36 : decode cX3_init 36 = .ok (.if_icmp .eq 25, 3) := by decide +kernel
theorem dX3_init_39 : decode cX3_init 39 = .ok (.aload_n 0, 1) := by decide +kernel
theorem dX3_init_40 : decode cX3_init 40 = .ok (.getfield 11, 3) := by decide +kernel
theorem dX3_init_43 : decode cX3_init 43 = .ok (.aload_n 0, 1) := by decide +kernel
theorem dX3_init_44 : decode cX3_init 44 = .ok (.getfield 15, 3) := by decide +kernel
theorem dX3_init_47 : decode cX3_init 47 = .ok (.aload_n 1, 1) := by decide +kernel
theorem dX3_init_48 : decode cX3_init 48 = .ok (.iload_n 2, 1) := by decide +kernel
theorem dX3_init_49 : decode cX3_init 49 = .ok (.iaload, 1) := by decide +kernel
theorem dX3_init_50 : decode cX3_init 50 = .ok (.iastore, 1) := by decide +kernel
theorem dX3_init_51 : decode cX3_init 51 = .ok (.aload_n 0, 1) := by decide +kernel
theorem dX3_init_52 : decode cX3_init 52 = .ok (.dup, 1) := by decide +kernel
theorem dX3_init_53 : decode cX3_init 53 = .ok (.getfield 15, 3) := by decide +kernel
theorem dX3_init_56 : decode cX3_init 56 = .ok (.iconst 1, 1) := by decide +kernel
theorem dX3_init_57 : decode cX3_init 57 = .ok (.iadd, 1) := by decide +kernel
theorem dX3_init_58 : decode cX3_init 58 = .ok (.putfield 15, 3) := by decide +kernel
theorem dX3_init_61 : decode cX3_init 61 = .ok (.iinc 2 1, 3) := by decide +kernel
theorem dX3_init_64 : decode cX3_init 64 = .ok (.goto (-46), 3) := by decide +kernel
theorem dX3_init_67 : decode cX3_init 67 = .ok (.return_, 1) := by decide +kernel
theorem dX3_tagOf_0 : decode cX3_tagOf 0 = .ok (.iconst (-1), 1) := by decide +kernel
theorem dX3_tagOf_1 : decode cX3_tagOf 1 = .ok (.istore_n 2, 1) := by decide +kernel
theorem dX3_tagOf_2 : decode cX3_tagOf 2 = .ok (.iconst 0, 1) := by decide +kernel
theorem dX3_tagOf_3 : decode cX3_tagOf 3 = .ok (.istore_n 3, 1) := by decide +kernel
theorem dX3_tagOf_4 : decode cX3_tagOf 4 = .ok (.iload_n 3, 1) := by decide +kernel
theorem dX3_tagOf_5 : decode cX3_tagOf 5 = .ok (.aload_n 0, 1) := by decide +kernel
theorem dX3_tagOf_6 : decode cX3_tagOf 6 = .ok (.getfield 15, 3) := by decide +kernel
theorem dX3_tagOf_9 : decode cX3_tagOf 9 = .ok (.if_icmp .ge 39, 3) := by decide +kernel
theorem dX3_tagOf_12 : decode cX3_tagOf 12 = .ok (.aload_n 0, 1) := by decide +kernel
theorem dX3_tagOf_13 : decode cX3_tagOf 13 = .ok (.getfield 11, 3) := by decide +kernel
theorem dX3_tagOf_16 : decode cX3_tagOf 16 = .ok (.iload_n 3, 1) := by decide +kernel
theorem dX3_tagOf_17 : decode cX3_tagOf 17 = .ok (.iaload, 1) := by decide +kernel
theorem dX3_tagOf_18 : decode cX3_tagOf 18 = .ok (.aload_n 1, 1) := by decide +kernel
theorem dX3_tagOf_19 : decode cX3_tagOf 19 = .ok (.getfield 19, 3) := by decide +kernel
theorem dX3_tagOf_22 : decode cX3_tagOf 22 = .ok (.if_icmp .ne 5, 3) := by decide +kernel
theorem dX3_tagOf_25 : decode cX3_tagOf 25 = .ok (.iload_n 3, 1) := by decide +kernel
theorem dX3_tagOf_26 : decode cX3_tagOf 26 = .ok (.ireturn, 1) := by decide +kernel
theorem dX3_tagOf_27 : decode cX3_tagOf 27 = .ok (.aload_n 1, 1) := by decide +kernel
theorem dX3_tagOf_28 : decode cX3_tagOf 28 = .ok (.aload_n 0, 1) := by decide +kernel
theorem dX3_tagOf_29 : decode cX3_tagOf 29 = .ok (.getfield 11, 3) := by decide +kernel
theorem dX3_tagOf_32 : decode cX3_tagOf 32 = .ok (.iload_n 3, 1) := by decide +kernel
theorem dX3_tagOf_33 : decode cX3_tagOf 33 = .ok (.iaload, 1) := by decide +kernel
theorem dX3_tagOf_34 : decode cX3_tagOf 34 = .ok (.invokevirtual 24, 3) := by decide +kernel
theorem dX3_tagOf_37 : decode cX3_tagOf 37 = .ok (.ifCond .eq 5, 3) := by decide +kernel
theorem dX3_tagOf_40 : decode cX3_tagOf 40 = .ok (.iload_n 3, 1) := by decide +kernel
theorem dX3_tagOf_41 : decode cX3_tagOf 41 = .ok (.istore_n 2, 1) := by decide +kernel
theorem dX3_tagOf_42 : decode cX3_tagOf 42 = .ok (.iinc 3 1, 3) := by decide +kernel
theorem dX3_tagOf_45 : decode cX3_tagOf 45 = .ok (.goto (-41), 3) := by decide +kernel
theorem dX3_tagOf_48 : decode cX3_tagOf 48 = .ok (.iload_n 2, 1) := by decide +kernel
theorem dX3_tagOf_49 : decode cX3_tagOf 49 = .ok (.ireturn, 1) := by decide +kernel
theorem dX4_init_0 : decode cX4_init 0 = .ok (.aload_n 0, 1) := by decide +kernel
theorem dX4_init_1 : decode cX4_init 1 = .ok (.invokespecial 3, 3) := by decide +kernel
theorem dX4_init_4 : decode cX4_init 4 = .ok (.aload_n 0, 1) := by decide +kernel
theorem dX4_init_5 : decode cX4_init 5 = .ok (.iconst 0, 1) := by decide +kernel
theorem dX4_init_6 : decode cX4_init 6 = .ok (.putfield 9, 3) := by decide +kernel
theorem dX4_init_9 : decode cX4_init 9 = .ok (.aload_n 0, 1) := by decide +kernel
theorem dX4_init_10 : decode cX4_init 10 = .ok (.iconst (-1), 1) := by decide +kernel
theorem dX4_init_11 : decode cX4_init 11 = .ok (.putfield 15, 3) := by decide +kernel
theorem dX4_init_14 : decode cX4_init 14 = .ok (.aload_n 0, 1) := by decide +kernel
theorem dX4_init_15 : decode cX4_init 15 = .ok (.iconst 0, 1) := by decide +kernel
theorem dX4_init_16 : decode cX4_init 16 = .ok (.putfield 19, 3) := by decide +kernel
theorem dX4_init_19 : decode cX4_init 19 = .ok (.aload_n 0, 1) := by decide +kernel
theorem dX4_init_20 : decode cX4_init 20 = .ok (.iconst 0, 1) := by decide +kernel
theorem dX4_init_21 : decode cX4_init 21 = .ok (.putfield 22, 3) := by decide +kernel
theorem dX4_init_24 : decode cX4_init 24 = .ok (.aload_n 0, 1) := by decide +kernel
theorem dX4_init_25 : decode cX4_init 25 = .ok (.iload_n 1, 1) := by decide +kernel
theorem dX4_init_26 : decode cX4_init 26 = .ok (.putfield 25, 3) := by decide +kernel
theorem dX4_init_29 : decode cX4_init 29 = .ok (.aload_n 0, 1) := by decide +kernel
theorem dX4_init_30 : decode cX4_init 30 = .ok (.aload_n 2, 1) := by decide +kernel
theorem dX4_init_31 : decode cX4_init 31 = .ok (.putfield 28, 3) := by decide +kernel
theorem dX4_init_34 : decode cX4_init 34 = .ok (.aload_n 0, 1) := by decide +kernel
theorem dX4_init_35 : decode cX4_init 35 = .ok (.lload_n 3, 1) := by decide +kernel
theorem dX4_init_36 : decode cX4_init 36 = .ok (.putfield 32, 3) := by decide +kernel
theorem dX4_init_39 : decode cX4_init 39 = .ok (.return_, 1) := by decide +kernel
theorem dX4_isOf_0 : decode cX4_isOf 0 = .ok (.aload_n 0, 1) := by decide +kernel
theorem dX4_isOf_1 : decode cX4_isOf 1 = .ok (.getfield 25, 3) := by decide +kernel
theorem dX4_isOf_4 : decode cX4_isOf 4 = .ok (.iload_n 1, 1) := by decide +kernel
theorem dX4_isOf_5 : decode cX4_isOf 5 = .ok (.if_icmp .eq 16, 3) := by decide +kernel
theorem dX4_isOf_8 : decode cX4_isOf 8 = .ok (.aload_n 0, 1) := by decide +kernel
theorem dX4_isOf_9 : decode cX4_isOf 9 = .ok (.getfield 25, 3) := by decide +kernel
theorem dX4_isOf_12 : decode cX4_isOf 12 = .ok (.iconst 2, 1) := by decide +kernel
theorem dX4_isOf_13 : decode cX4_isOf 13 = .ok (.if_icmp .ne 12, 3) := by decide +kernel
theorem dX4_isOf_16 : decode cX4_isOf 16 = .ok (.iload_n 1, 1) := by decide +kernel
theorem dX4_isOf_17 : decode cX4_isOf 17 = .ok (.iconst 1, 1) := by decide +kernel
theorem dX4_isOf_18 : decode cX4_isOf 18 = .ok (.if_icmp .ne 7, 3) := by decide +kernel
theorem dX4_isOf_21 : decode cX4_isOf 21 = .ok (.iconst 1, 1) := by decide +kernel
theorem dX4_isOf_22 : decode cX4_isOf 22 = .ok (.goto 4, 3) := by decide +kernel
theorem dX4_isOf_25 : decode cX4_isOf 25 = .ok (.iconst 0, 1) := by decide +kernel
theorem dX4_isOf_26 : decode cX4_isOf 26 = .ok (.ireturn, 1) := by decide +kernel
theorem dX4_isLike_0 : decode cX4_isLike 0 = .ok (.aload_n 0, 1) := by decide +kernel
theorem dX4_isLike_1 : decode cX4_isLike 1 = .ok (.getfield 22, 3) := by decide +kernel
theorem dX4_isLike_4 : decode cX4_isLike 4 = .ok (.aload_n 1, 1) := by decide +kernel
theorem dX4_isLike_5 : decode cX4_isLike 5 = .ok (.getfield 22, 3) := by decide +kernel
theorem dX4_isLike_8 : decode cX4_isLike 8 = .ok (.if_icmp .ne 7, 3) := by decide +kernel
theorem dX4_isLike_11 : decode cX4_isLike 11 = .ok (.iconst 1, 1) := by decide +kernel
theorem dX4_isLike_12 : decode cX4_isLike 12 = .ok (.goto 4, 3) := by decide +kernel
theorem dX4_isLike_15 : decode cX4_isLike 15 = .ok (.iconst 0, 1) := by decide +kernel
theorem dX4_isLike_16 : decode cX4_isLike 16 = .ok (.ireturn, 1) := by decide +kernel
theorem dX4_hasPlace_0 : decode cX4_hasPlace 0 = .ok (.iload_n 1, 1) := by decide +kernel
theorem dX4_hasPlace_1 : decode cX4_hasPlace 1 = .ok (.ifCond .lt 18, 3) := by decide +kernel
theorem dX4_hasPlace_4 : decode cX4_hasPlace 4 = .ok (.iload_n 1, 1) := by decide +kernel
theorem dX4_hasPlace_5 : decode cX4_hasPlace 5 = .ok (.aload_n 0, 1) := by decide +kernel
theorem dX4_hasPlace_6 : decode cX4_hasPlace 6 = .ok (.getfield 28, 3) := by decide +kernel
theorem dX4_hasPlace_9 : decode cX4_hasPlace 9 = .ok (.arraylength, 1) := by decide +kernel
theorem dX4_hasPlace_10 : decode cX4_hasPlace 10 = .ok (.iconst 1, 1) := by decide +kernel
theorem dX4_hasPlace_11 : decode cX4_hasPlace 11 = .ok (.isub, 1) := by decide +kernel
theorem dX4_hasPlace_12 : decode cX4_hasPlace 12 = .ok (.if_icmp .ge 7, 3) := by decide +kernel
theorem dX4_hasPlace_15 : decode cX4_hasPlace 15 = .ok (.iconst 1, 1) := by decide +kernel
theorem dX4_hasPlace_16 : decode cX4_hasPlace 16 = .ok (.goto 4, 3) := by decide +kernel
theorem dX4_hasPlace_19 : decode cX4_hasPlace 19 = .ok (.iconst 0, 1) := by decide +kernel
theorem dX4_hasPlace_20 : decode cX4_hasPlace 20 = .ok (.ireturn, 1) := by decide +kernel
theorem dX4_hold_0 : decode cX4_hold 0 = .ok (.aload_n 0, 1) := by decide +kernel
theorem dX4_hold_1 : decode cX4_hold 1 = .ok (.getfield 28, 3) := by decide +kernel
theorem dX4_hold_4 : decode cX4_hold 4 = .ok (.iconst 1, 1) := by decide +kernel
theorem dX4_hold_5 : decode cX4_hold 5 = .ok (.iload_n 1, 1) := by decide +kernel
theorem dX4_hold_6 : decode cX4_hold 6 = .ok (.iadd, 1) := by decide +kernel
theorem dX4_hold_7 : decode cX4_hold 7 = .ok (.laload, 1) := by decide +kernel
theorem dX4_hold_8 : decode cX4_hold 8 = .ok (.ldc2_w 36, 3) := by decide +kernel
theorem dX4_hold_11 : decode cX4_hold 11 = .ok (.lcmp, 1) := by decide +kernel
theorem dX4_hold_12 : decode cX4_hold 12 = .ok (.ifCond .eq 13, 3) := by decide +kernel
theorem dX4_hold_15 : decode cX4_hold 15 = .ok (.aload_n 0, 1) := by decide +kernel
theorem dX4_hold_16 : decode cX4_hold 16 = .ok (.dup, 1) := by decide +kernel
theorem dX4_hold_17 : decode cX4_hold 17 = .ok (.getfield 32, 3) := by decide +kernel
theorem dX4_hold_20 : decode cX4_hold 20 = .ok (.lconst 1, 1) := by decide +kernel
theorem dX4_hold_21 : decode cX4_hold 21 = .ok (.lsub, 1) := by decide +kernel
theorem dX4_hold_22 : decode cX4_hold 22 = .ok (.putfield 32, 3) := by decide +kernel
theorem dX4_hold_25 : decode cX4_hold 25 = .ok (.iload_n 2, 1) := by decide +kernel
theorem dX4_hold_26 : decode cX4_hold 26 = .ok (.iconst (-1), 1) := by decide +kernel
theorem dX4_hold_27 : decode cX4_hold 27 = .ok (.if_icmp .eq 13, 3) := by decide +kernel
theorem dX4_hold_30 : decode cX4_hold 30 = .ok (.aload_n 0, 1) := by decide +kernel
theorem dX4_hold_31 : decode cX4_hold 31 = .ok (.dup, 1) := by decide +kernel
theorem dX4_hold_32 : decode cX4_hold 32 = .ok (.getfield 32, 3) := by decide +kernel
theorem dX4_hold_35 : decode cX4_hold 35 = .ok (.lconst 1, 1) := by decide +kernel
theorem dX4_hold_36 : decode cX4_hold 36 = .ok (.ladd, 1) := by decide +kernel
theorem dX4_hold_37 : decode cX4_hold 37 = .ok (.putfield 32, 3) := by decide +kernel
theorem dX4_hold_40 : decode cX4_hold 40 = .ok (.aload_n 0, 1) := by decide +kernel
theorem dX4_hold_41 : decode cX4_hold 41 = .ok (.getfield 28, 3) := by decide +kernel
theorem dX4_hold_44 : decode cX4_hold 44 = .ok (.iconst 1, 1) := by decide +kernel
theorem dX4_hold_45 : decode cX4_hold 45 = .ok (.iload_n 1, 1) := by decide +kernel
theorem dX4_hold_46 : decode cX4_hold 46 = .ok (.iadd, 1) := by decide +kernel
theorem dX4_hold_47 : decode cX4_hold 47 = .ok (.iload_n 2, 1) := by decide +kernel
theorem dX4_hold_48 : decode cX4_hold 48 = .ok (.i2l, 1) := by decide +kernel
theorem dX4_hold_49 : decode cX4_hold 49 = .ok (.lastore, 1) := by decide +kernel
theorem dX4_hold_50 : decode cX4_hold 50 = .ok (.return_, 1) := by decide +kernel
theorem dX4_heavyWeight_0 : decode cX4_heavyWeight 0 = .ok (.aload_n 0, 1) := by decide +kernel
theorem dX4_heavyWeight_1 : decode cX4_heavyWeight 1 = .ok (.getfield 25, 3) := by decide +kernel
theorem dX4_heavyWeight_4 : decode cX4_heavyWeight 4 = .ok (.iconst 4, 1) := by decide +kernel
theorem dX4_heavyWeight_5 : decode cX4_heavyWeight 5 = .ok (.if_icmp .ne 8, 3) := by decide +kernel
theorem dX4_heavyWeight_8 : decode cX4_heavyWeight 8 = .ok (.aload_n 0, 1) := by decide +kernel
theorem dX4_heavyWeight_9 : decode cX4_heavyWeight 9 = .ok (.getfield 32, 3) := by decide +kernel
theorem dX4_heavyWeight_12 : decode cX4_heavyWeight 12 = .ok (.lreturn, 1) := by decide +kernel
theorem dX4_heavyWeight_13 : decode cX4_heavyWeight 13 = .ok (.ldc2_w 38, 3) := by decide +kernel
theorem dX4_heavyWeight_16 : decode cX4_heavyWeight 16 = .ok (.aload_n 0, 1) := by decide +kernel
theorem dX4_heavyWeight_17 : decode cX4_heavyWeight 17 = .ok (.getfield 32, 3) := by decide +kernel
theorem dX4_heavyWeight_20 : decode cX4_heavyWeight 20 = .ok (.lmul, 1) := by decide +kernel
theorem dX4_heavyWeight_21 : decode cX4_heavyWeight 21 = .ok (.lconst 1, 1) := by decide +kernel
theorem dX4_heavyWeight_22 : decode cX4_heavyWeight 22 = .ok (.ladd, 1) := by decide +kernel
theorem dX4_heavyWeight_23 : decode cX4_heavyWeight 23 = .ok (.lstore_n 1, 1) := by decide +kernel
theorem dX4_heavyWeight_24 : decode cX4_heavyWeight 24 = .ok (.aload_n 0, 1) := by decide +kernel
theorem dX4_heavyWeight_25 : decode cX4_heavyWeight 25 = .ok (.iconst 1, 1) := by decide +kernel
theorem dX4_heavyWeight_26 : decode cX4_heavyWeight 26 = .ok (.invokevirtual 40, 3) := by decide +kernel
theorem dX4_heavyWeight_29 : decode cX4_heavyWeight 29 = .ok (.ifCond .eq 11, 3) := by decide +kernel
theorem dX4_heavyWeight_32 : decode cX4_heavyWeight 32 = .ok (.ldc2_w 44, 3) := by decide +kernel
theorem dX4_heavyWeight_35 : decode cX4_heavyWeight 35 = .ok (.lload_n 1, 1) := by decide +kernel
theorem dX4_heavyWeight_36 : decode cX4_heavyWeight 36 = .ok (.lmul, 1) := by decide +kernel
theorem dX4_heavyWeight_37 : decode cX4_heavyWeight 37 = .ok (.goto 4, 3) := by decide +kernel
theorem dX4_heavyWeight_40 : decode cX4_heavyWeight 40 = .ok (.lload_n 1, 1) := by decide +kernel
theorem dX4_heavyWeight_41 : decode cX4_heavyWeight 41 = .ok (.lreturn, 1) := by decide +kernel
theorem dX5_init_0 : decode cX5_init 0 = .ok (.aload_n 0, 1) := by decide +kernel
theorem dX5_init_1 : decode cX5_init 1 = .ok (.invokespecial 3, 3) := by decide +kernel
theorem dX5_init_4 : decode cX5_init 4 = .ok (.aload_n 0, 1) := by decide +kernel
theorem dX5_init_5 : decode cX5_init 5 = .ok (.bipush 60, 2) := by decide +kernel
theorem dX5_init_7 : decode cX5_init 7 = .ok (.anewarray 11, 3) := by decide +kernel
theorem dX5_init_10 : decode cX5_init 10 = .ok (.putfield 13, 3) := by decide +kernel
theorem dX5_init_13 : decode cX5_init 13 = .ok (.aload_n 0, 1) := by decide +kernel
theorem dX5_init_14 : decode cX5_init 14 = .ok (.bipush 60, 2) := by decide +kernel
theorem dX5_init_16 : decode cX5_init 16 = .ok (.anewarray 11, 3) := by decide +kernel
theorem dX5_init_19 : decode cX5_init 19 = .ok (.putfield 17, 3) := by decide +kernel
theorem dX5_init_22 : decode cX5_init 22 = .ok (.aload_n 0, 1) := by decide +kernel
theorem dX5_init_23 : decode cX5_init 23 = .ok (.iconst 0, 1) := by decide +kernel
theorem dX5_init_24 : decode cX5_init 24 = .ok (.putfield 20, 3) := by decide +kernel
theorem dX5_init_27 : decode cX5_init 27 = .ok (.return_, 1) := by decide +kernel
theorem dX5_isFull_0 : decode cX5_isFull 0 = .ok (.aload_n 0, 1) := by decide +kernel
theorem dX5_isFull_1 : decode cX5_isFull 1 = .ok (.getfield 20, 3) := by decide +kernel
theorem dX5_isFull_4 : decode cX5_isFull 4 = .ok (.bipush 60, 2) := by decide +kernel
theorem dX5_isFull_6 : decode cX5_isFull 6 = .ok (.if_icmp .lt 7, 3) := by decide +kernel
theorem dX5_isFull_9 : decode cX5_isFull 9 = .ok (.iconst 1, 1) := by decide +kernel
theorem dX5_isFull_10 : decode cX5_isFull 10 = .ok (.goto 4, 3) := by decide +kernel
theorem dX5_isFull_13 : decode cX5_isFull 13 = .ok (.iconst 0, 1) := by decide +kernel
theorem dX5_isFull_14 : decode cX5_isFull 14 = .ok (.ireturn, 1) := by decide +kernel
theorem dX5_find_0 : decode cX5_find 0 = .ok (.lload_n 1, 1) := by decide +kernel
theorem dX5_find_1 : decode cX5_find 1 = .ok (.lconst 0, 1) := by decide +kernel
theorem dX5_find_2 : decode cX5_find 2 = .ok (.lcmp, 1) := by decide +kernel
theorem dX5_find_3 : decode cX5_find 3 = .ok (.ifCond .lt 23, 3) := by decide +kernel
theorem dX5_find_6 : decode cX5_find 6 = .ok (.lload_n 1, 1) := by decide +kernel
theorem dX5_find_7 : decode cX5_find 7 = .ok (.aload_n 0, 1) := by decide +kernel
theorem dX5_find_8 : decode cX5_find 8 = .ok (.getfield 20, 3) := by decide +kernel
theorem dX5_find_11 : decode cX5_find 11 = .ok (.i2l, 1) := by decide +kernel
theorem dX5_find_12 : decode cX5_find 12 = .ok (.lcmp, 1) := by decide +kernel
theorem dX5_find_13 : decode cX5_find 13 = .ok (.ifCond .ge 13, 3) := by decide +kernel
theorem dX5_find_16 : decode cX5_find 16 = .ok (.aload_n 0, 1) := by decide +kernel
theorem dX5_find_17 : decode cX5_find 17 = .ok (.getfield 13, 3) := by decide +kernel
theorem dX5_find_20 : decode cX5_find 20 = .ok (.lload_n 1, 1) := by decide +kernel
theorem dX5_find_21 : decode cX5_find 21 = .ok (.l2i, 1) := by decide +kernel
theorem dX5_find_22 : decode cX5_find 22 = .ok (.aaload, 1) := by decide +kernel
theorem dX5_find_23 : decode cX5_find 23 = .ok (.goto 4, 3) := by decide +kernel
theorem dX5_find_26 : decode cX5_find 26 = .ok (.aconst_null, 1) := by decide +kernel
theorem dX5_find_27 : decode cX5_find 27 = .ok (.areturn, 1) := by decide +kernel
theorem dX5_hasOrNone_0 : decode cX5_hasOrNone 0 = .ok (.iload_n 1, 1) := by decide +kernel
theorem dX5_hasOrNone_1 : decode cX5_hasOrNone 1 = .ok (.iconst (-1), 1) := by decide +kernel
theorem dX5_hasOrNone_2 : decode cX5_hasOrNone 2 = .ok (.if_icmp .eq 12, 3) := by decide +kernel
theorem dX5_hasOrNone_5 : decode cX5_hasOrNone 5 = .ok (.aload_n 0, 1) := by decide +kernel
theorem dX5_hasOrNone_6 : decode cX5_hasOrNone 6 = .ok (.iload_n 1, 1) := by decide +kernel
theorem dX5_hasOrNone_7 : decode cX5_hasOrNone 7 = .ok (.i2l, 1) := by decide +kernel
theorem dX5_hasOrNone_8 : decode cX5_hasOrNone 8 = .ok (.invokevirtual 24, 3) := by decide +kernel
theorem dX5_hasOrNone_11 : decode cX5_hasOrNone 11 = .ok (.ifnull 7, 3) := by decide +kernel
theorem dX5_hasOrNone_14 : decode cX5_hasOrNone 14 = .ok (.iconst 1, 1) := by decide +kernel
theorem dX5_hasOrNone_15 : decode cX5_hasOrNone 15 = .ok (.goto 4, 3) := by decide +kernel
theorem dX5_hasOrNone_18 : decode cX5_hasOrNone 18 = .ok (.iconst 0, 1) := by decide +kernel
theorem dX5_hasOrNone_19 : decode cX5_hasOrNone 19 = .ok (.ireturn, 1) := by decide +kernel
theorem dX5_add_0 : decode cX5_add 0 = .ok (.aload_n 1, 1) := by decide +kernel
theorem dX5_add_1 : decode cX5_add 1 = .ok (.aload_n 0, 1) := by decide +kernel
theorem dX5_add_2 : decode cX5_add 2 = .ok (.getfield 20, 3) := by decide +kernel
theorem dX5_add_5 : decode cX5_add 5 = .ok (.putfield 28, 3) := by decide +kernel
theorem dX5_add_8 : decode cX5_add 8 = .ok (.aload_n 1, 1) := by decide +kernel
theorem dX5_add_9 : decode cX5_add 9 = .ok (.aload_n 0, 1) := by decide +kernel
theorem dX5_add_10 : decode cX5_add 10 = .ok (.aload_n 1, 1) := by decide +kernel
theorem dX5_add_11 : decode cX5_add 11 = .ok (.invokevirtual 31, 3) := by decide +kernel
theorem dX5_add_14 : decode cX5_add 14 = .ok (.putfield 35, 3) := by decide +kernel
theorem dX5_add_17 : decode cX5_add 17 = .ok (.aload_n 0, 1) := by decide +kernel
theorem dX5_add_18 : decode cX5_add 18 = .ok (.aload_n 1, 1) := by decide +kernel
theorem dX5_add_19 : decode cX5_add 19 = .ok (.invokevirtual 38, 3) := by decide +kernel
theorem dX5_add_22 : decode cX5_add 22 = .ok (.aload_n 0, 1) := by decide +kernel
theorem dX5_add_23 : decode cX5_add 23 = .ok (.getfield 13, 3) := by decide +kernel
theorem dX5_add_26 : decode cX5_add 26 = .ok (.aload_n 0, 1) := by decide +kernel
theorem dX5_add_27 : decode cX5_add 27 = .ok (.getfield 20, 3) := by decide +kernel
theorem dX5_add_30 : decode cX5_add 30 = .ok (.aload_n 1, 1) := by decide +kernel
theorem dX5_add_31 : decode cX5_add 31 = .ok (.aastore, 1) := by decide +kernel
theorem dX5_add_32 : decode cX5_add 32 = .ok (.aload_n 0, 1) := by decide +kernel
theorem dX5_add_33 : decode cX5_add 33 = .ok (.dup, 1) := by decide +kernel
theorem dX5_add_34 : decode cX5_add 34 = .ok (.getfield 20, 3) := by decide +kernel
theorem dX5_add_37 : decode cX5_add 37 = .ok (.iconst 1, 1) := by decide +kernel
theorem dX5_add_38 : decode cX5_add 38 = .ok (.iadd, 1) := by decide +kernel
theorem dX5_add_39 : decode cX5_add 39 = .ok (.putfield 20, 3) := by decide +kernel
theorem dX5_add_42 : decode cX5_add 42 = .ok (.aload_n 1, 1) := by decide +kernel
theorem dX5_add_43 : decode cX5_add 43 = .ok (.getfield 28, 3) := by decide +kernel
theorem dX5_add_46 : decode cX5_add 46 = .ok (.ireturn, 1) := by decide +kernel
theorem dX5_weighPairs_0 : decode cX5_weighPairs 0 = .ok (.iconst 0, 1) := by decide +kernel
theorem dX5_weighPairs_1 : decode cX5_weighPairs 1 = .ok (.istore_n 1, 1) := by decide +kernel
theorem dX5_weighPairs_2 : decode cX5_weighPairs 2 = .ok (.iload_n 1, 1) := by decide +kernel
theorem dX5_weighPairs_3 : decode cX5_weighPairs 3 = .ok (.aload_n 0, 1) := by decide +kernel
theorem dX5_weighPairs_4 : decode cX5_weighPairs 4 = .ok (.getfield 20, 3) := by decide +kernel
theorem dX5_weighPairs_7 : decode cX5_weighPairs 7 = .ok (.if_icmp .ge 78, 3) := by decide +kernel
theorem dX5_weighPairs_10 : decode cX5_weighPairs 10 = .ok (.aload_n 0, 1) := by decide +kernel
theorem dX5_weighPairs_11 : decode cX5_weighPairs 11 = .ok (.getfield 13, 3) := by decide +kernel
theorem dX5_weighPairs_14 : decode cX5_weighPairs 14 = .ok (.iload_n 1, 1) := by decide +kernel
theorem dX5_weighPairs_15 : decode cX5_weighPairs 15 = .ok (.aaload, 1) := by decide +kernel
theorem dX5_weighPairs_16 : decode cX5_weighPairs 16 = .ok (.astore_n 2, 1) := by decide +kernel
theorem dX5_weighPairs_17 : decode cX5_weighPairs 17 = .ok (.aload_n 2, 1) := by decide +kernel
theorem dX5_weighPairs_18 : decode cX5_weighPairs 18 = .ok (.getfield 42, 3) := by decide +kernel
theorem dX5_weighPairs_21 : decode cX5_weighPairs 21 = .ok (.iconst 4, 1) := by decide +kernel
theorem dX5_weighPairs_22 : decode cX5_weighPairs 22 = .ok (.if_icmp .ne 57, 3) := by decide +kernel
theorem dX5_weighPairs_25 : decode cX5_weighPairs 25 = .ok (.aload_n 0, 1) := by decide +kernel
theorem dX5_weighPairs_26 : decode cX5_weighPairs 26 = .ok (.aload_n 2, 1) := by decide +kernel
theorem dX5_weighPairs_27 : decode cX5_weighPairs 27 = .ok (.getfield 45, 3) := by decide +kernel
theorem dX5_weighPairs_30 : decode cX5_weighPairs 30 = .ok (.iconst 0, 1) := by decide +kernel
theorem dX5_weighPairs_31 : decode cX5_weighPairs 31 = .ok (.laload, 1) := by decide +kernel
theorem dX5_weighPairs_32 : decode cX5_weighPairs 32 = .ok (.invokevirtual 24, 3) := by decide +kernel
theorem dX5_weighPairs_35 : decode cX5_weighPairs 35 = .ok (.astore_n 3, 1) := by decide +kernel
theorem dX5_weighPairs_36 : decode cX5_weighPairs 36 = .ok (.aload_n 0, 1) := by decide +kernel
theorem dX5_weighPairs_37 : decode cX5_weighPairs 37 = .ok (.aload_n 2, 1) := by decide +kernel
theorem dX5_weighPairs_38 : decode cX5_weighPairs 38 = .ok (.getfield 45, 3) := by decide +kernel
theorem dX5_weighPairs_41 : decode cX5_weighPairs 41 = .ok (.iconst 1, 1) := by decide +kernel
theorem dX5_weighPairs_42 : decode cX5_weighPairs 42 = .ok (.laload, 1) := by decide +kernel
theorem dX5_weighPairs_43 : decode cX5_weighPairs 43 = .ok (.invokevirtual 24, 3) := by decide +kernel
theorem dX5_weighPairs_46 : decode cX5_weighPairs 46 = .ok (.astore 4, 2) := by decide +kernel
theorem dX5_weighPairs_48 : decode cX5_weighPairs 48 = .ok (.aload_n 2, 1) := by decide +kernel
theorem dX5_weighPairs_49 : decode cX5_weighPairs 49 = .ok (.aload_n 3, 1) := by decide +kernel
theorem dX5_weighPairs_50 : decode cX5_weighPairs 50 = .ok (.ifnonnull 7, 3) := by decide +kernel
theorem dX5_weighPairs_53 : decode cX5_weighPairs 53 = .ok (.lconst 0, 1) := by decide +kernel
theorem dX5_weighPairs_54 : decode cX5_weighPairs 54 = .ok (.goto 7, 3) := by decide +kernel
theorem dX5_weighPairs_57 : decode cX5_weighPairs 57 = .ok (.aload_n 3, 1) := by decide +kernel
theorem dX5_weighPairs_58 : decode cX5_weighPairs 58 = .ok (.invokevirtual 49, 3) := by decide +kernel
theorem dX5_weighPairs_61 : decode cX5_weighPairs 61 = .ok (.aload 4, 2) := by decide +kernel
theorem dX5_weighPairs_63 : decode cX5_weighPairs 63 = .ok (.ifnonnull 7, 3) := by decide +kernel
theorem dX5_weighPairs_66 : decode cX5_weighPairs 66 = .ok (.lconst 0, 1) := by decide +kernel
theorem dX5_weighPairs_67 : decode cX5_weighPairs 67 = .ok (.goto 8, 3) := by decide +kernel
theorem dX5_weighPairs_70 : decode cX5_weighPairs 70 = .ok (.aload 4, 2) := by decide +kernel
theorem dX5_weighPairs_72 : decode cX5_weighPairs 72 = .ok (.getfield 53, 3) := by decide +kernel
theorem dX5_weighPairs_75 : decode cX5_weighPairs 75 = .ok (.ladd, 1) := by decide +kernel
theorem dX5_weighPairs_76 : decode cX5_weighPairs 76 = .ok (.putfield 53, 3) := by decide +kernel
theorem dX5_weighPairs_79 : decode cX5_weighPairs 79 = .ok (.iinc 1 1, 3) := by decide +kernel
theorem dX5_weighPairs_82 : decode cX5_weighPairs 82 = .ok (.goto (-80), 3) := by decide +kernel
theorem dX5_weighPairs_85 : decode cX5_weighPairs 85 = .ok (.return_, 1) := by decide +kernel
theorem dX5_numberRanked_0 : decode cX5_numberRanked 0 = .ok (.iload_n 1, 1) := by decide +kernel
theorem dX5_numberRanked_1 : decode cX5_numberRanked 1 = .ok (.ifCond .lt 23, 3) := by decide +kernel
theorem dX5_numberRanked_4 : decode cX5_numberRanked 4 = .ok (.iload_n 1, 1) := by decide +kernel
theorem dX5_numberRanked_5 : decode cX5_numberRanked 5 = .ok (.aload_n 0, 1) := by decide +kernel
theorem dX5_numberRanked_6 : decode cX5_numberRanked 6 = .ok (.getfield 20, 3) := by decide +kernel
theorem dX5_numberRanked_9 : decode cX5_numberRanked 9 = .ok (.if_icmp .ge 15, 3) := by decide +kernel
theorem dX5_numberRanked_12 : decode cX5_numberRanked 12 = .ok (.aload_n 0, 1) := by decide +kernel
theorem dX5_numberRanked_13 : decode cX5_numberRanked 13 = .ok (.getfield 17, 3) := by decide +kernel
theorem dX5_numberRanked_16 : decode cX5_numberRanked 16 = .ok (.iload_n 1, 1) := by decide +kernel
theorem dX5_numberRanked_17 : decode cX5_numberRanked 17 = .ok (.aaload, 1) := by decide +kernel
theorem dX5_numberRanked_18 : decode cX5_numberRanked 18 = .ok (.getfield 28, 3) := by decide +kernel
theorem dX5_numberRanked_21 : decode cX5_numberRanked 21 = .ok (.goto 4, 3) := by decide +kernel
theorem dX5_numberRanked_24 : decode cX5_numberRanked 24 = .ok (.iconst (-1), 1) := by decide +kernel
theorem dX5_numberRanked_25 : decode cX5_numberRanked 25 = .ok (.ireturn, 1) := by decide +kernel
theorem dX5_firstLike_0 : decode cX5_firstLike 0 = .ok (.iconst 0, 1) := by decide +kernel
theorem dX5_firstLike_1 : decode cX5_firstLike 1 = .ok (.istore_n 2, 1) := by decide +kernel
theorem dX5_firstLike_2 : decode cX5_firstLike 2 = .ok (.iload_n 2, 1) := by decide +kernel
theorem dX5_firstLike_3 : decode cX5_firstLike 3 = .ok (.aload_n 1, 1) := by decide +kernel
theorem dX5_firstLike_4 : decode cX5_firstLike 4 = .ok (.getfield 28, 3) := by decide +kernel
theorem dX5_firstLike_7 : decode cX5_firstLike 7 = .ok (.if_icmp .ge 24, 3) := by decide +kernel
theorem dX5_firstLike_10 : decode cX5_firstLike 10 = .ok (.aload_n 0, 1) := by decide +kernel
theorem dX5_firstLike_11 : decode cX5_firstLike 11 = .ok (.getfield 13, 3) := by decide +kernel
theorem dX5_firstLike_14 : decode cX5_firstLike 14 = .ok (.iload_n 2, 1) := by decide +kernel
theorem dX5_firstLike_15 : decode cX5_firstLike 15 = .ok (.aaload, 1) := by decide +kernel
theorem dX5_firstLike_16 : decode cX5_firstLike 16 = .ok (.aload_n 1, 1) := by decide +kernel
theorem dX5_firstLike_17 : decode cX5_firstLike 17 = .ok (.invokevirtual 57, 3) := by decide +kernel
theorem dX5_firstLike_20 : decode cX5_firstLike 20 = .ok (.ifCond .eq 5, 3) := by decide +kernel
theorem dX5_firstLike_23 : decode cX5_firstLike 23 = .ok (.iload_n 2, 1) := by decide +kernel
theorem dX5_firstLike_24 : decode cX5_firstLike 24 = .ok (.ireturn, 1) := by decide +kernel
theorem dX5_firstLike_25 : decode cX5_firstLike 25 = .ok (.iinc 2 1, 3) := by decide +kernel
theorem dX5_firstLike_28 : decode cX5_firstLike 28 = .ok (.goto (-26), 3) := by decide +kernel
theorem dX5_firstLike_31 : decode cX5_firstLike 31 = .ok (.aload_n 1, 1) := by decide +kernel
theorem dX5_firstLike_32 : decode cX5_firstLike 32 = .ok (.getfield 28, 3) := by decide +kernel
theorem dX5_firstLike_35 : decode cX5_firstLike 35 = .ok (.ireturn, 1) := by decide +kernel
theorem dX5_hashOf_0 : decode cX5_hashOf 0 = .ok (.aload_n 1, 1) := by decide +kernel
theorem dX5_hashOf_1 : decode cX5_hashOf 1 = .ok (.getfield 42, 3) := by decide +kernel
theorem dX5_hashOf_4 : decode cX5_hashOf 4 = .ok (.bipush 6, 2) := by decide +kernel
theorem dX5_hashOf_6 : decode cX5_hashOf 6 = .ok (.if_icmp .ne 16, 3) := by decide +kernel
theorem dX5_hashOf_9 : decode cX5_hashOf 9 = .ok (.bipush 31, 2) := by decide +kernel
theorem dX5_hashOf_11 : decode cX5_hashOf 11 = .ok (.aload_n 1, 1) := by decide +kernel
theorem dX5_hashOf_12 : decode cX5_hashOf 12 = .ok (.getfield 42, 3) := by decide +kernel
theorem dX5_hashOf_15 : decode cX5_hashOf 15 = .ok (.imul, 1) := by decide +kernel
theorem dX5_hashOf_16 : decode cX5_hashOf 16 = .ok (.aload_n 1, 1) := by decide +kernel
theorem dX5_hashOf_17 : decode cX5_hashOf 17 = .ok (.getfield 28, 3) := by decide +kernel
theorem dX5_hashOf_20 : decode cX5_hashOf 20 = .ok (.iadd, 1) := by decide +kernel
theorem dX5_hashOf_21 : decode cX5_hashOf 21 = .ok (.ireturn, 1) := by decide +kernel
theorem dX5_hashOf_22 : decode cX5_hashOf 22 = .ok (.aload_n 1, 1) := by decide +kernel
theorem dX5_hashOf_23 : decode cX5_hashOf 23 = .ok (.getfield 42, 3) := by decide +kernel
theorem dX5_hashOf_26 : decode cX5_hashOf 26 = .ok (.istore_n 2, 1) := by decide +kernel
theorem dX5_hashOf_27 : decode cX5_hashOf 27 = .ok (.aload_n 1, 1) := by decide +kernel
theorem dX5_hashOf_28 : decode cX5_hashOf 28 = .ok (.getfield 45, 3) := by decide +kernel
theorem dX5_hashOf_31 : decode cX5_hashOf 31 = .ok (.astore_n 3, 1) := by decide +kernel
theorem dX5_hashOf_32 : decode cX5_hashOf 32 = .ok (.aload_n 3, 1) := by decide +kernel
theorem dX5_hashOf_33 : decode cX5_hashOf 33 = .ok (.arraylength, 1) := by decide +kernel
theorem dX5_hashOf_34 : decode cX5_hashOf 34 = .ok (.istore 4, 2) := by decide +kernel
theorem dX5_hashOf_36 : decode cX5_hashOf 36 = .ok (.iconst 0, 1) := by decide +kernel
theorem dX5_hashOf_37 : decode cX5_hashOf 37 = .ok (.istore 5, 2) := by decide +kernel
theorem dX5_hashOf_39 : decode cX5_hashOf 39 = .ok (.iload 5, 2) := by decide +kernel
theorem dX5_hashOf_41 : decode cX5_hashOf 41 = .ok (.iload 4, 2) := by decide +kernel
theorem dX5_hashOf_43 : decode cX5_hashOf 43 = .ok (.if_icmp .ge 47, 3) := by decide +kernel
theorem dX5_hashOf_46 : decode cX5_hashOf 46 = .ok (.aload_n 3, 1) := by decide +kernel
theorem dX5_hashOf_47 : decode cX5_hashOf 47 = .ok (.iload 5, 2) := by decide +kernel
theorem dX5_hashOf_49 : decode cX5_hashOf 49 = .ok (.laload, 1) := by decide +kernel
theorem dX5_hashOf_50 : decode cX5_hashOf 50 = .ok (.lstore 6, 2) := by decide +kernel
theorem dX5_hashOf_52 : decode cX5_hashOf 52 = .ok (.bipush 31, 2) := by decide +kernel
theorem dX5_hashOf_54 : decode cX5_hashOf 54 = .ok (.iload_n 2, 1) := by decide +kernel
theorem dX5_hashOf_55 : decode cX5_hashOf 55 = .ok (.imul, 1) := by decide +kernel
theorem dX5_hashOf_56 : decode cX5_hashOf 56 = .ok (.aload_n 1, 1) := by decide +kernel
theorem dX5_hashOf_57 : decode cX5_hashOf 57 = .ok (.getfield 42, 3) := by decide +kernel
theorem dX5_hashOf_60 : decode cX5_hashOf 60 = .ok (.iconst 4, 1) := by decide +kernel
theorem dX5_hashOf_61 : decode cX5_hashOf 61 = .ok (.if_icmp .ne 12, 3) := by decide +kernel
theorem dX5_hashOf_64 : decode cX5_hashOf 64 = .ok (.aload_n 0, 1) := by decide +kernel
theorem dX5_hashOf_65 : decode cX5_hashOf 65 = .ok (.lload 6, 2) := by decide +kernel
theorem dX5_hashOf_67 : decode cX5_hashOf 67 = .ok (.invokevirtual 61, 3) := by decide +kernel
theorem dX5_hashOf_70 : decode cX5_hashOf 70 = .ok (.goto 12, 3) := by decide +kernel
theorem dX5_hashOf_73 : decode cX5_hashOf 73 = .ok (.lload 6, 2) := by decide +kernel
theorem dX5_hashOf_75 : decode cX5_hashOf 75 = .ok (.lload 6, 2) := by decide +kernel
theorem dX5_hashOf_77 : decode cX5_hashOf 77 = .ok (.bipush 32, 2) := by decide +kernel
theorem dX5_hashOf_79 : decode cX5_hashOf 79 = .ok (.lushr, 1) := by decide +kernel
theorem dX5_hashOf_80 : decode cX5_hashOf 80 = .ok (.lxor, 1) := by decide +kernel
theorem dX5_hashOf_81 : decode cX5_hashOf 81 = .ok (.l2i, 1) := by decide +kernel
theorem dX5_hashOf_82 : decode cX5_hashOf 82 = .ok (.iadd, 1) := by decide +kernel
theorem dX5_hashOf_83 : decode cX5_hashOf 83 = .ok (.istore_n 2, 1) := by decide +kernel
theorem dX5_hashOf_84 : decode cX5_hashOf 84 = .ok (.iinc 5 1, 3) := by decide +kernel
theorem dX5_hashOf_87 : decode cX5_hashOf 87 = .ok (.goto (-48), 3) := by decide +kernel
theorem dX5_hashOf_90 : decode cX5_hashOf 90 = .ok (.iload_n 2, 1) := by decide +kernel
theorem dX5_hashOf_91 : decode cX5_hashOf 91 = .ok (.ireturn, 1) := by decide +kernel
theorem dX5_hashOfNumbered_0 : decode cX5_hashOfNumbered 0 = .ok (.aload_n 0, 1) := by decide +kernel
theorem dX5_hashOfNumbered_1 : decode cX5_hashOfNumbered 1 = .ok (.lload_n 1, 1) := by decide +kernel
theorem dX5_hashOfNumbered_2 : decode cX5_hashOfNumbered 2 = .ok (.invokevirtual 24, 3) := by decide +kernel
theorem dX5_hashOfNumbered_5 : decode cX5_hashOfNumbered 5 = .ok (.astore_n 3, 1) := by decide +kernel
theorem dX5_hashOfNumbered_6 : decode cX5_hashOfNumbered 6 = .ok (.aload_n 3, 1) := by decide +kernel
theorem dX5_hashOfNumbered_7 : decode cX5_hashOfNumbered 7 = .ok (.ifnonnull 7, 3) := by decide +kernel
theorem dX5_hashOfNumbered_10 : decode cX5_hashOfNumbered 10 = .ok (.iconst 0, 1) := by decide +kernel
theorem dX5_hashOfNumbered_11 : decode cX5_hashOfNumbered 11 = .ok (.goto 7, 3) := by decide +kernel
theorem dX5_hashOfNumbered_14 : decode cX5_hashOfNumbered 14 = .ok (.aload_n 3, 1) := by decide +kernel
theorem dX5_hashOfNumbered_15 : decode cX5_hashOfNumbered 15 = .ok (.getfield 35, 3) := by decide +kernel
theorem dX5_hashOfNumbered_18 : decode cX5_hashOfNumbered 18 = .ok (.ireturn, 1) := by decide +kernel
theorem dX5_rank_0 : decode cX5_rank 0 = .ok (.aload_n 0, 1) := by decide +kernel
theorem dX5_rank_1 : decode cX5_rank 1 = .ok (.getfield 20, 3) := by decide +kernel
theorem dX5_rank_4 : decode cX5_rank 4 = .ok (.istore_n 2, 1) := by decide +kernel
theorem dX5_rank_5 : decode cX5_rank 5 = .ok (.iload_n 2, 1) := by decide +kernel
theorem dX5_rank_6 : decode cX5_rank 6 = .ok (.ifCond .le 25, 3) := by decide +kernel
theorem dX5_rank_9 : decode cX5_rank 9 = .ok (.aload_n 0, 1) := by decide +kernel
theorem dX5_rank_10 : decode cX5_rank 10 = .ok (.aload_n 0, 1) := by decide +kernel
theorem dX5_rank_11 : decode cX5_rank 11 = .ok (.getfield 17, 3) := by decide +kernel
theorem dX5_rank_14 : decode cX5_rank 14 = .ok (.iload_n 2, 1) := by decide +kernel
theorem dX5_rank_15 : decode cX5_rank 15 = .ok (.iconst 1, 1) := by decide +kernel
theorem dX5_rank_16 : decode cX5_rank 16 = .ok (.isub, 1) := by decide +kernel
theorem dX5_rank_17 : decode cX5_rank 17 = .ok (.aaload, 1) := by decide +kernel
theorem dX5_rank_18 : decode cX5_rank 18 = .ok (.aload_n 1, 1) := by decide +kernel
theorem dX5_rank_19 : decode cX5_rank 19 = .ok (.invokevirtual 65, 3) := by decide +kernel
theorem dX5_rank_22 : decode cX5_rank 22 = .ok (.ifCond .le 9, 3) := by decide +kernel
theorem dX5_rank_25 : decode cX5_rank 25 = .ok (.iinc 2 (-1), 3) := by decide +kernel
theorem dX5_rank_28 : decode cX5_rank 28 = .ok (.goto (-23), 3) := by decide +kernel
theorem dX5_rank_31 : decode cX5_rank 31 = .ok (.iload_n 2, 1) := by decide +kernel
theorem dX5_rank_32 : decode cX5_rank 32 = .ok (.ifCond .le 23, 3) := by decide +kernel
theorem dX5_rank_35 : decode cX5_rank 35 = .ok (.aload_n 0, 1) := by decide +kernel
theorem dX5_rank_36 : decode cX5_rank 36 = .ok (.aload_n 0, 1) := by decide +kernel
theorem dX5_rank_37 : decode cX5_rank 37 = .ok (.getfield 17, 3) := by decide +kernel
theorem dX5_rank_40 : decode cX5_rank 40 = .ok (.iload_n 2, 1) := by decide +kernel
theorem dX5_rank_41 : decode cX5_rank 41 = .ok (.iconst 1, 1) := by decide +kernel
theorem dX5_rank_42 : decode cX5_rank 42 = .ok (.isub, 1) := by decide +kernel
theorem dX5_rank_43 : decode cX5_rank 43 = .ok (.aaload, 1) := by decide +kernel
theorem dX5_rank_44 : decode cX5_rank 44 = .ok (.aload_n 1, 1) := by decide +kernel
theorem dX5_rank_45 : decode cX5_rank 45 = .ok (.invokevirtual 65, 3) := by decide +kernel
theorem dX5_rank_48 : decode cX5_rank 48 = .ok (.ifCond .ne 7, 3) := by decide +kernel
theorem dX5_rank_51 : decode cX5_rank 51 = .ok (.iconst 1, 1) := by decide +kernel
theorem dX5_rank_52 : decode cX5_rank 52 = .ok (.goto 4, 3) := by decide +kernel
theorem dX5_rank_55 : decode cX5_rank 55 = .ok (.iconst 0, 1) := by decide +kernel
theorem dX5_rank_56 : decode cX5_rank 56 = .ok (.istore_n 3, 1) := by decide +kernel
theorem dX5_rank_57 : decode cX5_rank 57 = .ok (.aload_n 1, 1) := by decide +kernel
theorem dX5_rank_58 : decode cX5_rank 58 = .ok (.iload_n 3, 1) := by decide +kernel
theorem dX5_rank_59 : decode cX5_rank 59 = .ok (.ifCond .eq 17, 3) := by decide +kernel
theorem dX5_rank_62 : decode cX5_rank 62 = .ok (.aload_n 0, 1) := by decide +kernel
theorem dX5_rank_63 : decode cX5_rank 63 = .ok (.getfield 17, 3) := by decide +kernel
theorem dX5_rank_66 : decode cX5_rank 66 = .ok (.iload_n 2, 1) := by decide +kernel
theorem dX5_rank_67 : decode cX5_rank 67 = .ok (.iconst 1, 1) := by decide +kernel
theorem dX5_rank_68 : decode cX5_rank 68 = .ok (.isub, 1) := by decide +kernel
theorem dX5_rank_69 : decode cX5_rank 69 = .ok (.aaload, 1) := by decide +kernel
theorem dX5_rank_70 : decode cX5_rank 70 = .ok (.getfield 69, 3) := by decide +kernel
theorem dX5_rank_73 : decode cX5_rank 73 = .ok (.goto 4, 3) := by decide +kernel
theorem dX5_rank_76 : decode cX5_rank 76 = .ok (.iload_n 2, 1) := by decide +kernel
theorem dX5_rank_77 : decode cX5_rank 77 = .ok (.putfield 69, 3) := by decide +kernel
theorem dX5_rank_80 : decode cX5_rank 80 = .ok (.aload_n 0, 1) := by decide +kernel
theorem dX5_rank_81 : decode cX5_rank 81 = .ok (.getfield 20, 3) := by decide +kernel
theorem dX5_rank_84 : decode cX5_rank 84 = .ok (.istore 4, 2) := by decide +kernel
theorem dX5_rank_86 : decode cX5_rank 86 = .ok (.iload 4, 2) := by decide +kernel
theorem dX5_rank_88 : decode cX5_rank 88 = .ok (.iload_n 2, 1) := by decide +kernel
theorem dX5_rank_89 : decode cX5_rank 89 = .ok (.if_icmp .le 41, 3) := by decide +kernel
theorem dX5_rank_92 : decode cX5_rank 92 = .ok (.aload_n 0, 1) := by decide +kernel
theorem dX5_rank_93 : decode cX5_rank 93 = .ok (.getfield 17, 3) := by decide +kernel
theorem dX5_rank_96 : decode cX5_rank 96 = .ok (.iload 4, 2) := by decide +kernel
theorem dX5_rank_98 : decode cX5_rank 98 = .ok (.aload_n 0, 1) := by decide +kernel
theorem dX5_rank_99 : decode cX5_rank 99 = .ok (.getfield 17, 3) := by decide +kernel
theorem dX5_rank_102 : decode cX5_rank 102 = .ok (.iload 4, 2) := by decide +kernel
theorem dX5_rank_104 : decode cX5_rank 104 = .ok (.iconst 1, 1) := by decide +kernel
theorem dX5_rank_105 : decode cX5_rank 105 = .ok (.isub, 1) := by decide +kernel
theorem dX5_rank_106 : decode cX5_rank 106 = .ok (.aaload, 1) := by decide +kernel
theorem dX5_rank_107 : decode cX5_rank 107 = .ok (.aastore, 1) := by decide +kernel
theorem dX5_rank_108 : decode cX5_rank 108 = .ok (.aload_n 0, 1) := by decide +kernel
theorem dX5_rank_109 : decode cX5_rank 109 = .ok (.getfield 17, 3) := by decide +kernel
theorem dX5_rank_112 : decode cX5_rank 112 = .ok (.iload 4, 2) := by decide +kernel
theorem dX5_rank_114 : decode cX5_rank 114 = .ok (.aaload, 1) := by decide +kernel
theorem dX5_rank_115 : decode cX5_rank 115 = .ok (.dup, 1) := by decide +kernel
theorem dX5_rank_116 : decode cX5_rank 116 = .ok (.getfield 69, 3) := by decide +kernel
theorem dX5_rank_119 : decode cX5_rank 119 = .ok (.iconst 1, 1) := by decide +kernel
theorem dX5_rank_120 : decode cX5_rank 120 = .ok (.iadd, 1) := by decide +kernel
theorem dX5_rank_121 : decode cX5_rank 121 = .ok (.putfield 69, 3) := by decide +kernel
theorem dX5_rank_124 : decode cX5_rank 124 = .ok (.iinc 4 (-1), 3) := by decide +kernel
theorem dX5_rank_127 : decode cX5_rank 127 = .ok (.goto (-41), 3) := by decide +kernel
theorem dX5_rank_130 : decode cX5_rank 130 = .ok (.aload_n 0, 1) := by decide +kernel
theorem dX5_rank_131 : decode cX5_rank 131 = .ok (.getfield 17, 3) := by decide +kernel
theorem dX5_rank_134 : decode cX5_rank 134 = .ok (.iload_n 2, 1) := by decide +kernel
theorem dX5_rank_135 : decode cX5_rank 135 = .ok (.aload_n 1, 1) := by decide +kernel
theorem dX5_rank_136 : decode cX5_rank 136 = .ok (.aastore, 1) := by decide +kernel
theorem dX5_rank_137 : decode cX5_rank 137 = .ok (.return_, 1) := by decide +kernel
theorem dX5_compare_0 : decode cX5_compare 0 = .ok (.aload_n 1, 1) := by decide +kernel
theorem dX5_compare_1 : decode cX5_compare 1 = .ok (.getfield 42, 3) := by decide +kernel
theorem dX5_compare_4 : decode cX5_compare 4 = .ok (.aload_n 2, 1) := by decide +kernel
theorem dX5_compare_5 : decode cX5_compare 5 = .ok (.getfield 42, 3) := by decide +kernel
theorem dX5_compare_8 : decode cX5_compare 8 = .ok (.if_icmp .eq 15, 3) := by decide +kernel
theorem dX5_compare_11 : decode cX5_compare 11 = .ok (.aload_n 1, 1) := by decide +kernel
theorem dX5_compare_12 : decode cX5_compare 12 = .ok (.getfield 42, 3) := by decide +kernel
theorem dX5_compare_15 : decode cX5_compare 15 = .ok (.aload_n 2, 1) := by decide +kernel
theorem dX5_compare_16 : decode cX5_compare 16 = .ok (.getfield 42, 3) := by decide +kernel
theorem dX5_compare_19 : decode cX5_compare 19 = .ok (.invokestatic 72, 3) := by decide +kernel
theorem dX5_compare_22 : decode cX5_compare 22 = .ok (.ireturn, 1) := by decide +kernel
theorem dX5_compare_23 : decode cX5_compare 23 = .ok (.aload_n 1, 1) := by decide +kernel
theorem dX5_compare_24 : decode cX5_compare 24 = .ok (.getfield 42, 3) := by decide +kernel
theorem dX5_compare_27 : decode cX5_compare 27 = .ok (.bipush 6, 2) := by decide +kernel
theorem dX5_compare_29 : decode cX5_compare 29 = .ok (.if_icmp .ne 15, 3) := by decide +kernel
theorem dX5_compare_32 : decode cX5_compare 32 = .ok (.aload_n 1, 1) := by decide +kernel
theorem dX5_compare_33 : decode cX5_compare 33 = .ok (.getfield 28, 3) := by decide +kernel
theorem dX5_compare_36 : decode cX5_compare 36 = .ok (.aload_n 2, 1) := by decide +kernel
theorem dX5_compare_37 : decode cX5_compare 37 = .ok (.getfield 28, 3) := by decide +kernel
theorem dX5_compare_40 : decode cX5_compare 40 = .ok (.invokestatic 72, 3) := by decide +kernel
theorem dX5_compare_43 : decode cX5_compare 43 = .ok (.ireturn, 1) := by decide +kernel
theorem dX5_compare_44 : decode cX5_compare 44 = .ok (.aload_n 0, 1) := by decide +kernel
theorem dX5_compare_45 : decode cX5_compare 45 = .ok (.aload_n 1, 1) := by decide +kernel
theorem dX5_compare_46 : decode cX5_compare 46 = .ok (.getfield 42, 3) := by decide +kernel
theorem dX5_compare_49 : decode cX5_compare 49 = .ok (.iconst 5, 1) := by decide +kernel
theorem dX5_compare_50 : decode cX5_compare 50 = .ok (.if_icmp .ne 7, 3) := by decide +kernel
theorem dX5_compare_53 : decode cX5_compare 53 = .ok (.iconst 3, 1) := by decide +kernel
theorem dX5_compare_54 : decode cX5_compare 54 = .ok (.goto 4, 3) := by decide +kernel
theorem dX5_compare_57 : decode cX5_compare 57 = .ok (.iconst 0, 1) := by decide +kernel
theorem dX5_compare_58 : decode cX5_compare 58 = .ok (.aload_n 1, 1) := by decide +kernel
theorem dX5_compare_59 : decode cX5_compare 59 = .ok (.aload_n 2, 1) := by decide +kernel
theorem dX5_compare_60 : decode cX5_compare 60 = .ok (.invokevirtual 77, 3) := by decide +kernel
theorem dX5_compare_63 : decode cX5_compare 63 = .ok (.istore_n 3, 1) := by decide +kernel
theorem dX5_compare_64 : decode cX5_compare 64 = .ok (.iload_n 3, 1) := by decide +kernel
theorem dX5_compare_65 : decode cX5_compare 65 = .ok (.ifCond .ne 19, 3) := by decide +kernel
theorem dX5_compare_68 : decode cX5_compare 68 = .ok (.aload_n 1, 1) := by decide +kernel
theorem dX5_compare_69 : decode cX5_compare 69 = .ok (.getfield 42, 3) := by decide +kernel
theorem dX5_compare_72 : decode cX5_compare 72 = .ok (.iconst 5, 1) := by decide +kernel
theorem dX5_compare_73 : decode cX5_compare 73 = .ok (.if_icmp .ne 11, 3) := by decide +kernel
theorem dX5_compare_76 : decode cX5_compare 76 = .ok (.aload_n 1, 1) := by decide +kernel
theorem dX5_compare_77 : decode cX5_compare 77 = .ok (.aload_n 2, 1) := by decide +kernel
theorem dX5_compare_78 : decode cX5_compare 78 = .ok (.invokestatic 81, 3) := by decide +kernel
theorem dX5_compare_81 : decode cX5_compare 81 = .ok (.goto 4, 3) := by decide +kernel
theorem dX5_compare_84 : decode cX5_compare 84 = .ok (.iload_n 3, 1) := by decide +kernel
theorem dX5_compare_85 : decode cX5_compare 85 = .ok (.ireturn, 1) := by decide +kernel
theorem dX5_compareAtK_0 : decode cX5_compareAtK 0 = .ok (.aload_n 0, 1) := by decide +kernel
theorem dX5_compareAtK_1 : decode cX5_compareAtK 1 = .ok (.getfield 45, 3) := by decide +kernel
theorem dX5_compareAtK_4 : decode cX5_compareAtK 4 = .ok (.iconst 2, 1) := by decide +kernel
theorem dX5_compareAtK_5 : decode cX5_compareAtK 5 = .ok (.laload, 1) := by decide +kernel
theorem dX5_compareAtK_6 : decode cX5_compareAtK 6 = .ok (.aload_n 1, 1) := by decide +kernel
theorem dX5_compareAtK_7 : decode cX5_compareAtK 7 = .ok (.getfield 45, 3) := by decide +kernel
theorem dX5_compareAtK_10 : decode cX5_compareAtK 10 = .ok (.iconst 2, 1) := by decide +kernel
theorem dX5_compareAtK_11 : decode cX5_compareAtK 11 = .ok (.laload, 1) := by decide +kernel
theorem dX5_compareAtK_12 : decode cX5_compareAtK 12 = .ok (.invokestatic 84, 3) := by decide +kernel
theorem dX5_compareAtK_15 : decode cX5_compareAtK 15 = .ok (.istore_n 2, 1) := by decide +kernel
theorem dX5_compareAtK_16 : decode cX5_compareAtK 16 = .ok (.iload_n 2, 1) := by decide +kernel
theorem dX5_compareAtK_17 : decode cX5_compareAtK 17 = .ok (.ifCond .eq 7, 3) := by decide +kernel
theorem dX5_compareAtK_20 : decode cX5_compareAtK 20 = .ok (.iload_n 2, 1) := by decide +kernel
theorem dX5_compareAtK_21 : decode cX5_compareAtK 21 = .ok (.goto 18, 3) := by decide +kernel
theorem dX5_compareAtK_24 : decode cX5_compareAtK 24 = .ok (.aload_n 0, 1) := by decide +kernel
theorem dX5_compareAtK_25 : decode cX5_compareAtK 25 = .ok (.getfield 45, 3) := by decide +kernel
theorem dX5_compareAtK_28 : decode cX5_compareAtK 28 = .ok (.iconst 1, 1) := by decide +kernel
theorem dX5_compareAtK_29 : decode cX5_compareAtK 29 = .ok (.laload, 1) := by decide +kernel
theorem dX5_compareAtK_30 : decode cX5_compareAtK 30 = .ok (.aload_n 1, 1) := by decide +kernel
theorem dX5_compareAtK_31 : decode cX5_compareAtK 31 = .ok (.getfield 45, 3) := by decide +kernel
theorem dX5_compareAtK_34 : decode cX5_compareAtK 34 = .ok (.iconst 1, 1) := by decide +kernel
theorem dX5_compareAtK_35 : decode cX5_compareAtK 35 = .ok (.laload, 1) := by decide +kernel
theorem dX5_compareAtK_36 : decode cX5_compareAtK 36 = .ok (.invokestatic 84, 3) := by decide +kernel
theorem dX5_compareAtK_39 : decode cX5_compareAtK 39 = .ok (.ireturn, 1) := by decide +kernel
theorem dX5_compareFrom_0 : decode cX5_compareFrom 0 = .ok (.aload_n 2, 1) := by decide +kernel
theorem dX5_compareFrom_1 : decode cX5_compareFrom 1 = .ok (.getfield 45, 3) := by decide +kernel
theorem dX5_compareFrom_4 : decode cX5_compareFrom 4 = .ok (.arraylength, 1) := by decide +kernel
theorem dX5_compareFrom_5 : decode cX5_compareFrom 5 = .ok (.aload_n 3, 1) := by decide +kernel
theorem dX5_compareFrom_6 : decode cX5_compareFrom 6 = .ok (.getfield 45, 3) := by decide +kernel
theorem dX5_compareFrom_9 : decode cX5_compareFrom 9 = .ok (.arraylength, 1) := by decide +kernel
theorem dX5_compareFrom_10 : decode cX5_compareFrom 10 = .ok (.invokestatic 89, 3) := by decide +kernel
theorem dX5_compareFrom_13 : decode cX5_compareFrom 13 = .ok (.istore 4, 2) := by decide +kernel
theorem dX5_compareFrom_15 : decode cX5_compareFrom 15 = .ok (.iload_n 1, 1) := by decide +kernel
theorem dX5_compareFrom_16 : decode cX5_compareFrom 16 = .ok (.istore 5, 2) := by decide +kernel
theorem dX5_compareFrom_18 : decode cX5_compareFrom 18 = .ok (.iload 5, 2) := by decide +kernel
theorem dX5_compareFrom_20 : decode cX5_compareFrom 20 = .ok (.iload 4, 2) := by decide +kernel
theorem dX5_compareFrom_22 : decode cX5_compareFrom 22 = .ok (.if_icmp .ge 52, 3) := by decide +kernel
theorem dX5_compareFrom_25 : decode cX5_compareFrom 25 = .ok (.aload_n 0, 1) := by decide +kernel
theorem dX5_compareFrom_26 : decode cX5_compareFrom 26 = .ok (.aload_n 2, 1) := by decide +kernel
theorem dX5_compareFrom_27 : decode cX5_compareFrom 27 = .ok (.getfield 42, 3) := by decide +kernel
theorem dX5_compareFrom_30 : decode cX5_compareFrom 30 = .ok (.aload_n 2, 1) := by decide +kernel
theorem dX5_compareFrom_31 : decode cX5_compareFrom 31 = .ok (.getfield 45, 3) := by decide +kernel
theorem dX5_compareFrom_34 : decode cX5_compareFrom 34 = .ok (.iload 5, 2) := by decide +kernel
theorem dX5_compareFrom_36 : decode cX5_compareFrom 36 = .ok (.laload, 1) := by decide +kernel
theorem dX5_compareFrom_37 : decode cX5_compareFrom 37 = .ok (.invokevirtual 94, 3) := by decide +kernel
theorem dX5_compareFrom_40 : decode cX5_compareFrom 40 = .ok (.aload_n 0, 1) := by decide +kernel
theorem dX5_compareFrom_41 : decode cX5_compareFrom 41 = .ok (.aload_n 3, 1) := by decide +kernel
theorem dX5_compareFrom_42 : decode cX5_compareFrom 42 = .ok (.getfield 42, 3) := by decide +kernel
theorem dX5_compareFrom_45 : decode cX5_compareFrom 45 = .ok (.aload_n 3, 1) := by decide +kernel
theorem dX5_compareFrom_46 : decode cX5_compareFrom 46 = .ok (.getfield 45, 3) := by decide +kernel
theorem dX5_compareFrom_49 : decode cX5_compareFrom 49 = .ok (.iload 5, 2) := by decide +kernel
theorem dX5_compareFrom_51 : decode cX5_compareFrom 51 = .ok (.laload, 1) := by decide +kernel
theorem dX5_compareFrom_52 : decode cX5_compareFrom 52 = .ok (.invokevirtual 94, 3) := by decide +kernel
theorem dX5_compareFrom_55 : decode cX5_compareFrom 55 = .ok (.invokestatic 84, 3) := by decide +kernel
theorem dX5_compareFrom_58 : decode cX5_compareFrom 58 = .ok (.istore 6, 2) := by decide +kernel
theorem dX5_compareFrom_60 : decode cX5_compareFrom 60 = .ok (.iload 6, 2) := by decide +kernel
theorem dX5_compareFrom_62 : decode cX5_compareFrom 62 = .ok (.ifCond .eq 6, 3) := by decide +kernel
theorem dX5_compareFrom_65 : decode cX5_compareFrom 65 = .ok (.iload 6, 2) := by decide +kernel
theorem dX5_compareFrom_67 : decode cX5_compareFrom 67 = .ok (.ireturn, 1) := by decide +kernel
theorem dX5_compareFrom_68 : decode cX5_compareFrom 68 = .ok (.iinc 5 1, 3) := by decide +kernel
theorem dX5_compareFrom_71 : decode cX5_compareFrom 71 = .ok (.goto (-53), 3) := by decide +kernel
theorem dX5_compareFrom_74 : decode cX5_compareFrom 74 = .ok (.aload_n 2, 1) := by decide +kernel
theorem dX5_compareFrom_75 : decode cX5_compareFrom 75 = .ok (.getfield 45, 3) := by decide +kernel
theorem dX5_compareFrom_78 : decode cX5_compareFrom 78 = .ok (.arraylength, 1) := by decide +kernel
theorem dX5_compareFrom_79 : decode cX5_compareFrom 79 = .ok (.aload_n 3, 1) := by decide +kernel
theorem dX5_compareFrom_80 : decode cX5_compareFrom 80 = .ok (.getfield 45, 3) := by decide +kernel
theorem dX5_compareFrom_83 : decode cX5_compareFrom 83 = .ok (.arraylength, 1) := by decide +kernel
theorem dX5_compareFrom_84 : decode cX5_compareFrom 84 = .ok (.invokestatic 72, 3) := by decide +kernel
theorem dX5_compareFrom_87 : decode cX5_compareFrom 87 = .ok (.ireturn, 1) := by decide +kernel
theorem dX5_sortKey_0 : decode cX5_sortKey 0 = .ok (.iload_n 1, 1) := by decide +kernel
theorem dX5_sortKey_1 : decode cX5_sortKey 1 = .ok (.ifCond .ne 19, 3) := by decide +kernel
theorem dX5_sortKey_4 : decode cX5_sortKey 4 = .ok (.lload_n 2, 1) := by decide +kernel
theorem dX5_sortKey_5 : decode cX5_sortKey 5 = .ok (.lconst 0, 1) := by decide +kernel
theorem dX5_sortKey_6 : decode cX5_sortKey 6 = .ok (.lcmp, 1) := by decide +kernel
theorem dX5_sortKey_7 : decode cX5_sortKey 7 = .ok (.ifCond .ge 11, 3) := by decide +kernel
theorem dX5_sortKey_10 : decode cX5_sortKey 10 = .ok (.lload_n 2, 1) := by decide +kernel
theorem dX5_sortKey_11 : decode cX5_sortKey 11 = .ok (.ldc2_w 98, 3) := by decide +kernel
theorem dX5_sortKey_14 : decode cX5_sortKey 14 = .ok (.lxor, 1) := by decide +kernel
theorem dX5_sortKey_15 : decode cX5_sortKey 15 = .ok (.goto 4, 3) := by decide +kernel
theorem dX5_sortKey_18 : decode cX5_sortKey 18 = .ok (.lload_n 2, 1) := by decide +kernel
theorem dX5_sortKey_19 : decode cX5_sortKey 19 = .ok (.lreturn, 1) := by decide +kernel
theorem dX5_sortKey_20 : decode cX5_sortKey 20 = .ok (.iload_n 1, 1) := by decide +kernel
theorem dX5_sortKey_21 : decode cX5_sortKey 21 = .ok (.iconst 4, 1) := by decide +kernel
theorem dX5_sortKey_22 : decode cX5_sortKey 22 = .ok (.if_icmp .ne 28, 3) := by decide +kernel
theorem dX5_sortKey_25 : decode cX5_sortKey 25 = .ok (.aload_n 0, 1) := by decide +kernel
theorem dX5_sortKey_26 : decode cX5_sortKey 26 = .ok (.lload_n 2, 1) := by decide +kernel
theorem dX5_sortKey_27 : decode cX5_sortKey 27 = .ok (.invokevirtual 24, 3) := by decide +kernel
theorem dX5_sortKey_30 : decode cX5_sortKey 30 = .ok (.astore 4, 2) := by decide +kernel
theorem dX5_sortKey_32 : decode cX5_sortKey 32 = .ok (.aload 4, 2) := by decide +kernel
theorem dX5_sortKey_34 : decode cX5_sortKey 34 = .ok (.ifnonnull 9, 3) := by decide +kernel
theorem dX5_sortKey_37 : decode cX5_sortKey 37 = .ok (.ldc2_w 100, 3) := by decide +kernel
theorem dX5_sortKey_40 : decode cX5_sortKey 40 = .ok (.goto 9, 3) := by decide +kernel
theorem dX5_sortKey_43 : decode cX5_sortKey 43 = .ok (.aload 4, 2) := by decide +kernel
theorem dX5_sortKey_45 : decode cX5_sortKey 45 = .ok (.getfield 69, 3) := by decide +kernel
theorem dX5_sortKey_48 : decode cX5_sortKey 48 = .ok (.i2l, 1) := by decide +kernel
theorem dX5_sortKey_49 : decode cX5_sortKey 49 = .ok (.lreturn, 1) := by decide +kernel
theorem dX5_sortKey_50 : decode cX5_sortKey 50 = .ok (.lload_n 2, 1) := by decide +kernel
theorem dX5_sortKey_51 : decode cX5_sortKey 51 = .ok (.lreturn, 1) := by decide +kernel
theorem dX6_init_0 : decode cX6_init 0 = .ok (.aload_n 0, 1) := by decide +kernel
theorem dX6_init_1 : decode cX6_init 1 = .ok (.invokespecial 3, 3) := by decide +kernel
theorem dX6_init_4 : decode cX6_init 4 = .ok (.aload_n 0, 1) := by decide +kernel
theorem dX6_init_5 : decode cX6_init 5 = .ok (.bipush 40, 2) := by decide +kernel
theorem dX6_init_7 : decode cX6_init 7 = .ok (.newarray .int, 2) := by decide +kernel
theorem dX6_init_9 : decode cX6_init 9 = .ok (.putfield 11, 3) := by decide +kernel
theorem dX6_init_12 : decode cX6_init 12 = .ok (.aload_n 0, 1) := by decide +kernel
theorem dX6_init_13 : decode cX6_init 13 = .ok (.bipush 40, 2) := by decide +kernel
theorem dX6_init_15 : decode cX6_init 15 = .ok (.newarray .int, 2) := by decide +kernel
theorem dX6_init_17 : decode cX6_init 17 = .ok (.putfield 15, 3) := by decide +kernel
theorem dX6_init_20 : decode cX6_init 20 = .ok (.aload_n 0, 1) := by decide +kernel
theorem dX6_init_21 : decode cX6_init 21 = .ok (.iconst 0, 1) := by decide +kernel
theorem dX6_init_22 : decode cX6_init 22 = .ok (.putfield 18, 3) := by decide +kernel
theorem dX6_init_25 : decode cX6_init 25 = .ok (.return_, 1) := by decide +kernel
theorem dX6_store_0 : decode cX6_store 0 = .ok (.aload_n 0, 1) := by decide +kernel
theorem dX6_store_1 : decode cX6_store 1 = .ok (.iload_n 1, 1) := by decide +kernel
theorem dX6_store_2 : decode cX6_store 2 = .ok (.invokevirtual 22, 3) := by decide +kernel
theorem dX6_store_5 : decode cX6_store 5 = .ok (.istore_n 3, 1) := by decide +kernel
theorem dX6_store_6 : decode cX6_store 6 = .ok (.iload_n 3, 1) := by decide +kernel
theorem dX6_store_7 : decode cX6_store 7 = .ok (.iconst (-1), 1) := by decide +kernel
theorem dX6_store_8 : decode cX6_store 8 = .ok (.if_icmp .eq 12, 3) := by decide +kernel
theorem dX6_store_11 : decode cX6_store 11 = .ok (.aload_n 0, 1) := by decide +kernel
theorem dX6_store_12 : decode cX6_store 12 = .ok (.getfield 15, 3) := by decide +kernel
theorem dX6_store_15 : decode cX6_store 15 = .ok (.iload_n 3, 1) := by decide +kernel
theorem dX6_store_16 : decode cX6_store 16 = .ok (.iload_n 2, 1) := by decide +kernel
theorem dX6_store_17 : decode cX6_store 17 = .ok (.iastore, 1) := by decide +kernel
theorem dX6_store_18 : decode cX6_store 18 = .ok (.iconst 1, 1) := by decide +kernel
theorem dX6_store_19 : decode cX6_store 19 = .ok (.ireturn, 1) := by decide +kernel
theorem dX6_store_20 : decode cX6_store 20 = .ok (.aload_n 0, 1) := by decide +kernel
theorem dX6_store_21 : decode cX6_store 21 = .ok (.getfield 18, 3) := by decide +kernel
theorem dX6_store_24 : decode cX6_store 24 = .ok (.bipush 40, 2) := by decide +kernel
theorem dX6_store_26 : decode cX6_store 26 = .ok (.if_icmp .lt 6, 3) := by decide +kernel
theorem dX6_store_29 : decode cX6_store 29 = .ok (.bipush (-3), 2) := by decide +kernel
theorem dX6_store_31 : decode cX6_store 31 = .ok (.ireturn, 1) := by decide +kernel
theorem dX6_store_32 : decode cX6_store 32 = .ok (.aload_n 0, 1) := by decide +kernel
theorem dX6_store_33 : decode cX6_store 33 = .ok (.getfield 11, 3) := by decide +kernel
theorem dX6_store_36 : decode cX6_store 36 = .ok (.aload_n 0, 1) := by decide +kernel
theorem dX6_store_37 : decode cX6_store 37 = .ok (.getfield 18, 3) := by decide +kernel
theorem dX6_store_40 : decode cX6_store 40 = .ok (.iload_n 1, 1) := by decide +kernel
theorem dX6_store_41 : decode cX6_store 41 = .ok (.iastore, 1) := by decide +kernel
theorem dX6_store_42 : decode cX6_store 42 = .ok (.aload_n 0, 1) := by decide +kernel
theorem dX6_store_43 : decode cX6_store 43 = .ok (.getfield 15, 3) := by decide +kernel
theorem dX6_store_46 : decode cX6_store 46 = .ok (.aload_n 0, 1) := by decide +kernel
theorem dX6_store_47 : decode cX6_store 47 = .ok (.getfield 18, 3) := by decide +kernel
theorem dX6_store_50 : decode cX6_store 50 = .ok (.iload_n 2, 1) := by decide +kernel
theorem dX6_store_51 : decode cX6_store 51 = .ok (.iastore, 1) := by decide +kernel
theorem dX6_store_52 : decode cX6_store 52 = .ok (.aload_n 0, 1) := by decide +kernel
theorem dX6_store_53 : decode cX6_store 53 = .ok (.dup, 1) := by decide +kernel
theorem dX6_store_54 : decode cX6_store 54 = .ok (.getfield 18, 3) := by decide +kernel
theorem dX6_store_57 : decode cX6_store 57 = .ok (.iconst 1, 1) := by decide +kernel
theorem dX6_store_58 : decode cX6_store 58 = .ok (.iadd, 1) := by decide +kernel
theorem dX6_store_59 : decode cX6_store 59 = .ok (.putfield 18, 3) := by decide +kernel
theorem dX6_store_62 : decode cX6_store 62 = .ok (.iconst 0, 1) := by decide +kernel
theorem dX6_store_63 : decode cX6_store 63 = .ok (.ireturn, 1) := by decide +kernel
theorem dX6_valueOf_0 : decode cX6_valueOf 0 = .ok (.aload_n 0, 1) := by decide +kernel
theorem dX6_valueOf_1 : decode cX6_valueOf 1 = .ok (.iload_n 1, 1) := by decide +kernel
theorem dX6_valueOf_2 : decode cX6_valueOf 2 = .ok (.invokevirtual 22, 3) := by decide +kernel
theorem dX6_valueOf_5 : decode cX6_valueOf 5 = .ok (.istore_n 2, 1) := by decide +kernel
theorem dX6_valueOf_6 : decode cX6_valueOf 6 = .ok (.iload_n 2, 1) := by decide +kernel
theorem dX6_valueOf_7 : decode cX6_valueOf 7 = .ok (.iconst (-1), 1) := by decide +kernel
theorem dX6_valueOf_8 : decode cX6_valueOf 8 = .ok (.if_icmp .ne 7, 3) := by decide +kernel
theorem dX6_valueOf_11 : decode cX6_valueOf 11 = .ok (.iconst 0, 1) := by decide +kernel
theorem dX6_valueOf_12 : decode cX6_valueOf 12 = .ok (.goto 9, 3) := by decide +kernel
theorem dX6_valueOf_15 : decode cX6_valueOf 15 = .ok (.aload_n 0, 1) := by decide +kernel
theorem dX6_valueOf_16 : decode cX6_valueOf 16 = .ok (.getfield 15, 3) := by decide +kernel
theorem dX6_valueOf_19 : decode cX6_valueOf 19 = .ok (.iload_n 2, 1) := by decide +kernel
theorem dX6_valueOf_20 : decode cX6_valueOf 20 = .ok (.iaload, 1) := by decide +kernel
theorem dX6_valueOf_21 : decode cX6_valueOf 21 = .ok (.ireturn, 1) := by decide +kernel
theorem dX6_placeOf_0 : decode cX6_placeOf 0 = .ok (.iconst 0, 1) := by decide +kernel
theorem dX6_placeOf_1 : decode cX6_placeOf 1 = .ok (.istore_n 2, 1) := by decide +kernel
theorem dX6_placeOf_2 : decode cX6_placeOf 2 = .ok (.iload_n 2, 1) := by decide +kernel
theorem dX6_placeOf_3 : decode cX6_placeOf 3 = .ok (.aload_n 0, 1) := by decide +kernel
theorem dX6_placeOf_4 : decode cX6_placeOf 4 = .ok (.getfield 18, 3) := by decide +kernel
theorem dX6_placeOf_7 : decode cX6_placeOf 7 = .ok (.if_icmp .ge 21, 3) := by decide +kernel
theorem dX6_placeOf_10 : decode cX6_placeOf 10 = .ok (.aload_n 0, 1) := by decide +kernel
theorem dX6_placeOf_11 : decode cX6_placeOf 11 = .ok (.getfield 11, 3) := by decide +kernel
theorem dX6_placeOf_14 : decode cX6_placeOf 14 = .ok (.iload_n 2, 1) := by decide +kernel
theorem dX6_placeOf_15 : decode cX6_placeOf 15 = .ok (.iaload, 1) := by decide +kernel
theorem dX6_placeOf_16 : decode cX6_placeOf 16 = .ok (.iload_n 1, 1) := by decide +kernel
theorem dX6_placeOf_17 : decode cX6_placeOf 17 = .ok (.if_icmp .ne 5, 3) := by decide +kernel
theorem dX6_placeOf_20 : decode cX6_placeOf 20 = .ok (.iload_n 2, 1) := by decide +kernel
theorem dX6_placeOf_21 : decode cX6_placeOf 21 = .ok (.ireturn, 1) := by decide +kernel
theorem dX6_placeOf_22 : decode cX6_placeOf 22 = .ok (.iinc 2 1, 3) := by decide +kernel
theorem dX6_placeOf_25 : decode cX6_placeOf 25 = .ok (.goto (-23), 3) := by decide +kernel
theorem dX6_placeOf_28 : decode cX6_placeOf 28 = .ok (.iconst (-1), 1) := by decide +kernel
theorem dX6_placeOf_29 : decode cX6_placeOf 29 = .ok (.ireturn, 1) := by decide +kernel
theorem dX7_init_0 : decode cX7_init 0 = .ok (.aload_n 0, 1) := by decide +kernel
theorem dX7_init_1 : decode cX7_init 1 = .ok (.invokespecial 1, 3) := by decide +kernel
theorem dX7_init_4 : decode cX7_init 4 = .ok (.aload_n 0, 1) := by decide +kernel
theorem dX7_init_5 : decode cX7_init 5 = .ok (.new 7, 3) := by decide +kernel
theorem dX7_init_8 : decode cX7_init 8 = .ok (.dup, 1) := by decide +kernel
theorem dX7_init_9 : decode cX7_init 9 = .ok (.invokespecial 9, 3) := by decide +kernel
theorem dX7_init_12 : decode cX7_init 12 = .ok (.putfield 10, 3) := by decide +kernel
theorem dX7_init_15 : decode cX7_init 15 = .ok (.aload_n 0, 1) := by decide +kernel
theorem dX7_init_16 : decode cX7_init 16 = .ok (.new 16, 3) := by decide +kernel
theorem dX7_init_19 : decode cX7_init 19 = .ok (.dup, 1) := by decide +kernel
theorem dX7_init_20 : decode cX7_init 20 = .ok (.invokespecial 18, 3) := by decide +kernel
theorem dX7_init_23 : decode cX7_init 23 = .ok (.putfield 19, 3) := by decide +kernel
theorem dX7_init_26 : decode cX7_init 26 = .ok (.aload_n 0, 1) := by decide +kernel
theorem dX7_init_27 : decode cX7_init 27 = .ok (.bipush 12, 2) := by decide +kernel
theorem dX7_init_29 : decode cX7_init 29 = .ok (.newarray .int, 2) := by decide +kernel
theorem dX7_init_31 : decode cX7_init 31 = .ok (.putfield 23, 3) := by decide +kernel
theorem dX7_init_34 : decode cX7_init 34 = .ok (.aload_n 0, 1) := by decide +kernel
theorem dX7_init_35 : decode cX7_init 35 = .ok (.iconst 0, 1) := by decide +kernel
theorem dX7_init_36 : decode cX7_init 36 = .ok (.putfield 27, 3) := by decide +kernel
theorem dX7_init_39 : decode cX7_init 39 = .ok (.aload_n 0, 1) := by decide +kernel
theorem dX7_init_40 : decode cX7_init 40 = .ok (.bipush 6, 2) := by decide +kernel
theorem dX7_init_42 : decode cX7_init 42 = .ok (.anewarray 31, 3) := by decide +kernel
theorem dX7_init_45 : decode cX7_init 45 = .ok (.putfield 33, 3) := by decide +kernel
theorem dX7_init_48 : decode cX7_init 48 = .ok (.aload_n 0, 1) := by decide +kernel
theorem dX7_init_49 : decode cX7_init 49 = .ok (.iconst 0, 1) := by decide +kernel
theorem dX7_init_50 : decode cX7_init 50 = .ok (.putfield 37, 3) := by decide +kernel
theorem dX7_init_53 : decode cX7_init 53 = .ok (.aload_n 0, 1) := by decide +kernel
theorem dX7_init_54 : decode cX7_init 54 = .ok (.bipush 60, 2) := by decide +kernel
theorem dX7_init_56 : decode cX7_init 56 = .ok (.anewarray 40, 3) := by decide +kernel
theorem dX7_init_59 : decode cX7_init 59 = .ok (.putfield 42, 3) := by decide +kernel
theorem dX7_init_62 : decode cX7_init 62 = .ok (.aload_n 0, 1) := by decide +kernel
theorem dX7_init_63 : decode cX7_init 63 = .ok (.iconst 0, 1) := by decide +kernel
theorem dX7_init_64 : decode cX7_init 64 = .ok (.putfield 46, 3) := by decide +kernel
theorem dX7_init_67 : decode cX7_init 67 = .ok (.aload_n 0, 1) := by decide +kernel
theorem dX7_init_68 : decode cX7_init 68 = .ok (.iconst 4, 1) := by decide +kernel
theorem dX7_init_69 : decode cX7_init 69 = .ok (.anewarray 49, 3) := by decide +kernel
theorem dX7_init_72 : decode cX7_init 72 = .ok (.putfield 51, 3) := by decide +kernel
theorem dX7_init_75 : decode cX7_init 75 = .ok (.aload_n 0, 1) := by decide +kernel
theorem dX7_init_76 : decode cX7_init 76 = .ok (.new 55, 3) := by decide +kernel
theorem dX7_init_79 : decode cX7_init 79 = .ok (.dup, 1) := by decide +kernel
theorem dX7_init_80 : decode cX7_init 80 = .ok (.invokespecial 57, 3) := by decide +kernel
theorem dX7_init_83 : decode cX7_init 83 = .ok (.putfield 58, 3) := by decide +kernel
theorem dX7_init_86 : decode cX7_init 86 = .ok (.aload_n 0, 1) := by decide +kernel
theorem dX7_init_87 : decode cX7_init 87 = .ok (.lconst 1, 1) := by decide +kernel
theorem dX7_init_88 : decode cX7_init 88 = .ok (.putfield 62, 3) := by decide +kernel
theorem dX7_init_91 : decode cX7_init 91 = .ok (.iconst 0, 1) := by decide +kernel
theorem dX7_init_92 : decode cX7_init 92 = .ok (.istore_n 1, 1) := by decide +kernel
theorem dX7_init_93 : decode cX7_init 93 = .ok (.iload_n 1, 1) := by decide +kernel
theorem dX7_init_94 : decode cX7_init 94 = .ok (.iconst 4, 1) := by decide +kernel
theorem dX7_init_95 : decode cX7_init 95 = .ok (.if_icmp .ge 22, 3) := by decide +kernel
theorem dX7_init_98 : decode cX7_init 98 = .ok (.aload_n 0, 1) := by decide +kernel
theorem dX7_init_99 : decode cX7_init 99 = .ok (.getfield 51, 3) := by decide +kernel
theorem dX7_init_102 : decode cX7_init 102 = .ok (.iload_n 1, 1) := by decide +kernel
theorem dX7_init_103 : decode cX7_init 103 = .ok (.new 49, 3) := by decide +kernel
theorem dX7_init_106 : decode cX7_init 106 = .ok (.dup, 1) := by decide +kernel
theorem dX7_init_107 : decode cX7_init 107 = .ok (.invokespecial 66, 3) := by decide +kernel
theorem dX7_init_110 : decode cX7_init 110 = .ok (.aastore, 1) := by decide +kernel
theorem dX7_init_111 : decode cX7_init 111 = .ok (.iinc 1 1, 3) := by decide +kernel
theorem dX7_init_114 : decode cX7_init 114 = .ok (.goto (-21), 3) := by decide +kernel
theorem dX7_init_117 : decode cX7_init 117 = .ok (.return_, 1) := by decide +kernel
theorem dX7_cause_0 : decode cX7_cause 0 = .ok (.iload_n 1, 1) := by decide +kernel
theorem dX7_cause_1 : decode cX7_cause 1 = .ok (.tableswitch 51 0 2 #[27, 35, 43], 27) := by decide +kernel
theorem dX7_cause_28 : decode cX7_cause 28 = .ok (.aload_n 0, 1) := by decide +kernel
theorem dX7_cause_29 : decode cX7_cause 29 = .ok (.getfield 10, 3) := by decide +kernel
theorem dX7_cause_32 : decode cX7_cause 32 = .ok (.getfield 67, 3) := by decide +kernel
theorem dX7_cause_35 : decode cX7_cause 35 = .ok (.ireturn, 1) := by decide +kernel
theorem dX7_cause_36 : decode cX7_cause 36 = .ok (.aload_n 0, 1) := by decide +kernel
theorem dX7_cause_37 : decode cX7_cause 37 = .ok (.getfield 10, 3) := by decide +kernel
theorem dX7_cause_40 : decode cX7_cause 40 = .ok (.getfield 70, 3) := by decide +kernel
theorem dX7_cause_43 : decode cX7_cause 43 = .ok (.ireturn, 1) := by decide +kernel
theorem dX7_cause_44 : decode cX7_cause 44 = .ok (.aload_n 0, 1) := by decide +kernel
theorem dX7_cause_45 : decode cX7_cause 45 = .ok (.getfield 10, 3) := by decide +kernel
theorem dX7_cause_48 : decode cX7_cause 48 = .ok (.getfield 73, 3) := by decide +kernel
theorem dX7_cause_51 : decode cX7_cause 51 = .ok (.ireturn, 1) := by decide +kernel
theorem dX7_cause_52 : decode cX7_cause 52 = .ok (.bipush (-2), 2) := by decide +kernel
theorem dX7_cause_54 : decode cX7_cause 54 = .ok (.ireturn, 1) := by decide +kernel
theorem dX7_lay_0 : decode cX7_lay 0 = .ok (.aload_n 0, 1) := by decide +kernel
theorem dX7_lay_1 : decode cX7_lay 1 = .ok (.getfield 27, 3) := by decide +kernel
theorem dX7_lay_4 : decode cX7_lay 4 = .ok (.bipush 12, 2) := by decide +kernel
theorem dX7_lay_6 : decode cX7_lay 6 = .ok (.if_icmp .lt 6, 3) := by decide +kernel
theorem dX7_lay_9 : decode cX7_lay 9 = .ok (.bipush (-3), 2) := by decide +kernel
theorem dX7_lay_11 : decode cX7_lay 11 = .ok (.ireturn, 1) := by decide +kernel
theorem dX7_lay_12 : decode cX7_lay 12 = .ok (.aload_n 0, 1) := by decide +kernel
theorem dX7_lay_13 : decode cX7_lay 13 = .ok (.getfield 23, 3) := by decide +kernel
theorem dX7_lay_16 : decode cX7_lay 16 = .ok (.aload_n 0, 1) := by decide +kernel
theorem dX7_lay_17 : decode cX7_lay 17 = .ok (.getfield 27, 3) := by decide +kernel
theorem dX7_lay_20 : decode cX7_lay 20 = .ok (.iload_n 1, 1) := by decide +kernel
theorem dX7_lay_21 : decode cX7_lay 21 = .ok (.iastore, 1) := by decide +kernel
theorem dX7_lay_22 : decode cX7_lay 22 = .ok (.aload_n 0, 1) := by decide +kernel
theorem dX7_lay_23 : decode cX7_lay 23 = .ok (.dup, 1) := by decide +kernel
theorem dX7_lay_24 : decode cX7_lay 24 = .ok (.getfield 27, 3) := by decide +kernel
theorem dX7_lay_27 : decode cX7_lay 27 = .ok (.iconst 1, 1) := by decide +kernel
theorem dX7_lay_28 : decode cX7_lay 28 = .ok (.iadd, 1) := by decide +kernel
theorem dX7_lay_29 : decode cX7_lay 29 = .ok (.putfield 27, 3) := by decide +kernel
theorem dX7_lay_32 : decode cX7_lay 32 = .ok (.aload_n 0, 1) := by decide +kernel
theorem dX7_lay_33 : decode cX7_lay 33 = .ok (.getfield 27, 3) := by decide +kernel
theorem dX7_lay_36 : decode cX7_lay 36 = .ok (.ireturn, 1) := by decide +kernel
theorem dX7_wipe_0 : decode cX7_wipe 0 = .ok (.aload_n 0, 1) := by decide +kernel
theorem dX7_wipe_1 : decode cX7_wipe 1 = .ok (.getfield 27, 3) := by decide +kernel
theorem dX7_wipe_4 : decode cX7_wipe 4 = .ok (.istore_n 1, 1) := by decide +kernel
theorem dX7_wipe_5 : decode cX7_wipe 5 = .ok (.aload_n 0, 1) := by decide +kernel
theorem dX7_wipe_6 : decode cX7_wipe 6 = .ok (.iconst 0, 1) := by decide +kernel
theorem dX7_wipe_7 : decode cX7_wipe 7 = .ok (.putfield 27, 3) := by decide +kernel
theorem dX7_wipe_10 : decode cX7_wipe 10 = .ok (.iload_n 1, 1) := by decide +kernel
theorem dX7_wipe_11 : decode cX7_wipe 11 = .ok (.ireturn, 1) := by decide +kernel
theorem dX7_point_0 : decode cX7_point 0 = .ok (.aload_n 0, 1) := by decide +kernel
theorem dX7_point_1 : decode cX7_point 1 = .ok (.getfield 10, 3) := by decide +kernel
theorem dX7_point_4 : decode cX7_point 4 = .ok (.invokevirtual 76, 3) := by decide +kernel
theorem dX7_point_7 : decode cX7_point 7 = .ok (.aload_n 0, 1) := by decide +kernel
theorem dX7_point_8 : decode cX7_point 8 = .ok (.getfield 19, 3) := by decide +kernel
theorem dX7_point_11 : decode cX7_point 11 = .ok (.invokevirtual 79, 3) := by decide +kernel
theorem dX7_point_14 : decode cX7_point 14 = .ok (.ifCond .eq 6, 3) := by decide +kernel
theorem dX7_point_17 : decode cX7_point 17 = .ok (.bipush (-3), 2) := by decide +kernel
theorem dX7_point_19 : decode cX7_point 19 = .ok (.ireturn, 1) := by decide +kernel
theorem dX7_point_20 : decode cX7_point 20 = .ok (.aload_n 0, 1) := by decide +kernel
theorem dX7_point_21 : decode cX7_point 21 = .ok (.getfield 19, 3) := by decide +kernel
theorem dX7_point_24 : decode cX7_point 24 = .ok (.new 83, 3) := by decide +kernel
theorem dX7_point_27 : decode cX7_point 27 = .ok (.dup, 1) := by decide +kernel
theorem dX7_point_28 : decode cX7_point 28 = .ok (.iconst 0, 1) := by decide +kernel
theorem dX7_point_29 : decode cX7_point 29 = .ok (.iconst 2, 1) := by decide +kernel
theorem dX7_point_30 : decode cX7_point 30 = .ok (.newarray .long, 2) := by decide +kernel
theorem dX7_point_32 : decode cX7_point 32 = .ok (.dup, 1) := by decide +kernel
theorem dX7_point_33 : decode cX7_point 33 = .ok (.iconst 0, 1) := by decide +kernel
theorem dX7_point_34 : decode cX7_point 34 = .ok (.lload_n 1, 1) := by decide +kernel
theorem dX7_point_35 : decode cX7_point 35 = .ok (.invokestatic 85, 3) := by decide +kernel
theorem dX7_point_38 : decode cX7_point 38 = .ok (.lastore, 1) := by decide +kernel
theorem dX7_point_39 : decode cX7_point 39 = .ok (.dup, 1) := by decide +kernel
theorem dX7_point_40 : decode cX7_point 40 = .ok (.iconst 1, 1) := by decide +kernel
theorem dX7_point_41 : decode cX7_point 41 = .ok (.lload_n 3, 1) := by decide +kernel
theorem dX7_point_42 : decode cX7_point 42 = .ok (.invokestatic 85, 3) := by decide +kernel
theorem dX7_point_45 : decode cX7_point 45 = .ok (.lastore, 1) := by decide +kernel
theorem dX7_point_46 : decode cX7_point 46 = .ok (.lconst 1, 1) := by decide +kernel
theorem dX7_point_47 : decode cX7_point 47 = .ok (.invokespecial 89, 3) := by decide +kernel
theorem dX7_point_50 : decode cX7_point 50 = .ok (.invokevirtual 92, 3) := by decide +kernel
theorem dX7_point_53 : decode cX7_point 53 = .ok (.ireturn, 1) := by decide +kernel
theorem dX7_span_0 : decode cX7_span 0 = .ok (.aload_n 0, 1) := by decide +kernel
theorem dX7_span_1 : decode cX7_span 1 = .ok (.getfield 10, 3) := by decide +kernel
theorem dX7_span_4 : decode cX7_span 4 = .ok (.invokevirtual 76, 3) := by decide +kernel
theorem dX7_span_7 : decode cX7_span 7 = .ok (.aload_n 0, 1) := by decide +kernel
theorem dX7_span_8 : decode cX7_span 8 = .ok (.getfield 19, 3) := by decide +kernel
theorem dX7_span_11 : decode cX7_span 11 = .ok (.invokevirtual 79, 3) := by decide +kernel
theorem dX7_span_14 : decode cX7_span 14 = .ok (.ifCond .eq 6, 3) := by decide +kernel
theorem dX7_span_17 : decode cX7_span 17 = .ok (.bipush (-3), 2) := by decide +kernel
theorem dX7_span_19 : decode cX7_span 19 = .ok (.ireturn, 1) := by decide +kernel
theorem dX7_span_20 : decode cX7_span 20 = .ok (.iload_n 1, 1) := by decide +kernel
theorem dX7_span_21 : decode cX7_span 21 = .ok (.iload_n 2, 1) := by decide +kernel
theorem dX7_span_22 : decode cX7_span 22 = .ok (.if_icmp .le 13, 3) := by decide +kernel
theorem dX7_span_25 : decode cX7_span 25 = .ok (.aload_n 0, 1) := by decide +kernel
theorem dX7_span_26 : decode cX7_span 26 = .ok (.getfield 10, 3) := by decide +kernel
theorem dX7_span_29 : decode cX7_span 29 = .ok (.iconst 1, 1) := by decide +kernel
theorem dX7_span_30 : decode cX7_span 30 = .ok (.iconst 1, 1) := by decide +kernel
theorem dX7_span_31 : decode cX7_span 31 = .ok (.invokevirtual 96, 3) := by decide +kernel
theorem dX7_span_34 : decode cX7_span 34 = .ok (.ireturn, 1) := by decide +kernel
theorem dX7_span_35 : decode cX7_span 35 = .ok (.aload_n 0, 1) := by decide +kernel
theorem dX7_span_36 : decode cX7_span 36 = .ok (.getfield 19, 3) := by decide +kernel
theorem dX7_span_39 : decode cX7_span 39 = .ok (.new 83, 3) := by decide +kernel
theorem dX7_span_42 : decode cX7_span 42 = .ok (.dup, 1) := by decide +kernel
theorem dX7_span_43 : decode cX7_span 43 = .ok (.iconst 1, 1) := by decide +kernel
theorem dX7_span_44 : decode cX7_span 44 = .ok (.iconst 2, 1) := by decide +kernel
theorem dX7_span_45 : decode cX7_span 45 = .ok (.newarray .long, 2) := by decide +kernel
theorem dX7_span_47 : decode cX7_span 47 = .ok (.dup, 1) := by decide +kernel
theorem dX7_span_48 : decode cX7_span 48 = .ok (.iconst 0, 1) := by decide +kernel
theorem dX7_span_49 : decode cX7_span 49 = .ok (.iload_n 1, 1) := by decide +kernel
theorem dX7_span_50 : decode cX7_span 50 = .ok (.i2l, 1) := by decide +kernel
theorem dX7_span_51 : decode cX7_span 51 = .ok (.lastore, 1) := by decide +kernel
theorem dX7_span_52 : decode cX7_span 52 = .ok (.dup, 1) := by decide +kernel
theorem dX7_span_53 : decode cX7_span 53 = .ok (.iconst 1, 1) := by decide +kernel
theorem dX7_span_54 : decode cX7_span 54 = .ok (.iload_n 2, 1) := by decide +kernel
theorem dX7_span_55 : decode cX7_span 55 = .ok (.i2l, 1) := by decide +kernel
theorem dX7_span_56 : decode cX7_span 56 = .ok (.lastore, 1) := by decide +kernel
theorem dX7_span_57 : decode cX7_span 57 = .ok (.iload_n 1, 1) := by decide +kernel
theorem dX7_span_58 : decode cX7_span 58 = .ok (.iload_n 2, 1) := by decide +kernel
theorem dX7_span_59 : decode cX7_span 59 = .ok (.invokestatic 100, 3) := by decide +kernel
theorem dX7_span_62 : decode cX7_span 62 = .ok (.invokespecial 89, 3) := by decide +kernel
theorem dX7_span_65 : decode cX7_span 65 = .ok (.invokevirtual 92, 3) := by decide +kernel
theorem dX7_span_68 : decode cX7_span 68 = .ok (.ireturn, 1) := by decide +kernel
theorem dX7_wide_0 : decode cX7_wide 0 = .ok (.aload_n 0, 1) := by decide +kernel
theorem dX7_wide_1 : decode cX7_wide 1 = .ok (.getfield 10, 3) := by decide +kernel
theorem dX7_wide_4 : decode cX7_wide 4 = .ok (.invokevirtual 76, 3) := by decide +kernel
theorem dX7_wide_7 : decode cX7_wide 7 = .ok (.aload_n 0, 1) := by decide +kernel
theorem dX7_wide_8 : decode cX7_wide 8 = .ok (.getfield 19, 3) := by decide +kernel
theorem dX7_wide_11 : decode cX7_wide 11 = .ok (.invokevirtual 79, 3) := by decide +kernel
theorem dX7_wide_14 : decode cX7_wide 14 = .ok (.ifCond .eq 6, 3) := by decide +kernel
theorem dX7_wide_17 : decode cX7_wide 17 = .ok (.bipush (-3), 2) := by decide +kernel
theorem dX7_wide_19 : decode cX7_wide 19 = .ok (.ireturn, 1) := by decide +kernel
theorem dX7_wide_20 : decode cX7_wide 20 = .ok (.iload_n 1, 1) := by decide +kernel
theorem dX7_wide_21 : decode cX7_wide 21 = .ok (.iload_n 2, 1) := by decide +kernel
theorem dX7_wide_22 : decode cX7_wide 22 = .ok (.if_icmp .le 13, 3) := by decide +kernel
theorem dX7_wide_25 : decode cX7_wide 25 = .ok (.aload_n 0, 1) := by decide +kernel
theorem dX7_wide_26 : decode cX7_wide 26 = .ok (.getfield 10, 3) := by decide +kernel
theorem dX7_wide_29 : decode cX7_wide 29 = .ok (.iconst 1, 1) := by decide +kernel
theorem dX7_wide_30 : decode cX7_wide 30 = .ok (.iconst 1, 1) := by decide +kernel
theorem dX7_wide_31 : decode cX7_wide 31 = .ok (.invokevirtual 96, 3) := by decide +kernel
theorem dX7_wide_34 : decode cX7_wide 34 = .ok (.ireturn, 1) := by decide +kernel
theorem dX7_wide_35 : decode cX7_wide 35 = .ok (.iload_n 3, 1) := by decide +kernel
theorem dX7_wide_36 : decode cX7_wide 36 = .ok (.ifCond .ne 14, 3) := by decide +kernel
theorem dX7_wide_39 : decode cX7_wide 39 = .ok (.aload_n 0, 1) := by decide +kernel
theorem dX7_wide_40 : decode cX7_wide 40 = .ok (.getfield 10, 3) := by decide +kernel
theorem dX7_wide_43 : decode cX7_wide 43 = .ok (.bipush 6, 2) := by decide +kernel
theorem dX7_wide_45 : decode cX7_wide 45 = .ok (.iconst 2, 1) := by decide +kernel
theorem dX7_wide_46 : decode cX7_wide 46 = .ok (.invokevirtual 104, 3) := by decide +kernel
theorem dX7_wide_49 : decode cX7_wide 49 = .ok (.ireturn, 1) := by decide +kernel
theorem dX7_wide_50 : decode cX7_wide 50 = .ok (.iload_n 2, 1) := by decide +kernel
theorem dX7_wide_51 : decode cX7_wide 51 = .ok (.iload_n 1, 1) := by decide +kernel
theorem dX7_wide_52 : decode cX7_wide 52 = .ok (.isub, 1) := by decide +kernel
theorem dX7_wide_53 : decode cX7_wide 53 = .ok (.iload_n 3, 1) := by decide +kernel
theorem dX7_wide_54 : decode cX7_wide 54 = .ok (.irem, 1) := by decide +kernel
theorem dX7_wide_55 : decode cX7_wide 55 = .ok (.ifCond .eq 13, 3) := by decide +kernel
theorem dX7_wide_58 : decode cX7_wide 58 = .ok (.aload_n 0, 1) := by decide +kernel
theorem dX7_wide_59 : decode cX7_wide 59 = .ok (.getfield 10, 3) := by decide +kernel
theorem dX7_wide_62 : decode cX7_wide 62 = .ok (.iconst 2, 1) := by decide +kernel
theorem dX7_wide_63 : decode cX7_wide 63 = .ok (.iconst 2, 1) := by decide +kernel
theorem dX7_wide_64 : decode cX7_wide 64 = .ok (.invokevirtual 96, 3) := by decide +kernel
theorem dX7_wide_67 : decode cX7_wide 67 = .ok (.ireturn, 1) := by decide +kernel
theorem dX7_wide_68 : decode cX7_wide 68 = .ok (.iload_n 1, 1) := by decide +kernel
theorem dX7_wide_69 : decode cX7_wide 69 = .ok (.iload_n 2, 1) := by decide +kernel
theorem dX7_wide_70 : decode cX7_wide 70 = .ok (.invokestatic 100, 3) := by decide +kernel
theorem dX7_wide_73 : decode cX7_wide 73 = .ok (.iload_n 3, 1) := by decide +kernel
theorem dX7_wide_74 : decode cX7_wide 74 = .ok (.i2l, 1) := by decide +kernel
theorem dX7_wide_75 : decode cX7_wide 75 = .ok (.invokestatic 107, 3) := by decide +kernel
theorem dX7_wide_78 : decode cX7_wide 78 = .ok (.ldiv, 1) := by decide +kernel
theorem dX7_wide_79 : decode cX7_wide 79 = .ok (.lconst 1, 1) := by decide +kernel
theorem dX7_wide_80 : decode cX7_wide 80 = .ok (.ladd, 1) := by decide +kernel
theorem dX7_wide_81 : decode cX7_wide 81 = .ok (.lstore 4, 2) := by decide +kernel
theorem dX7_wide_83 : decode cX7_wide 83 = .ok (.aload_n 0, 1) := by decide +kernel
theorem dX7_wide_84 : decode cX7_wide 84 = .ok (.getfield 19, 3) := by decide +kernel
theorem dX7_wide_87 : decode cX7_wide 87 = .ok (.new 83, 3) := by decide +kernel
theorem dX7_wide_90 : decode cX7_wide 90 = .ok (.dup, 1) := by decide +kernel
theorem dX7_wide_91 : decode cX7_wide 91 = .ok (.iconst 2, 1) := by decide +kernel
theorem dX7_wide_92 : decode cX7_wide 92 = .ok (.iconst 3, 1) := by decide +kernel
theorem dX7_wide_93 : decode cX7_wide 93 = .ok (.newarray .long, 2) := by decide +kernel
theorem dX7_wide_95 : decode cX7_wide 95 = .ok (.dup, 1) := by decide +kernel
theorem dX7_wide_96 : decode cX7_wide 96 = .ok (.iconst 0, 1) := by decide +kernel
theorem dX7_wide_97 : decode cX7_wide 97 = .ok (.iload_n 1, 1) := by decide +kernel
theorem dX7_wide_98 : decode cX7_wide 98 = .ok (.i2l, 1) := by decide +kernel
theorem dX7_wide_99 : decode cX7_wide 99 = .ok (.lastore, 1) := by decide +kernel
theorem dX7_wide_100 : decode cX7_wide 100 = .ok (.dup, 1) := by decide +kernel
theorem dX7_wide_101 : decode cX7_wide 101 = .ok (.iconst 1, 1) := by decide +kernel
theorem dX7_wide_102 : decode cX7_wide 102 = .ok (.iload_n 2, 1) := by decide +kernel
theorem dX7_wide_103 : decode cX7_wide 103 = .ok (.i2l, 1) := by decide +kernel
theorem dX7_wide_104 : decode cX7_wide 104 = .ok (.lastore, 1) := by decide +kernel
theorem dX7_wide_105 : decode cX7_wide 105 = .ok (.dup, 1) := by decide +kernel
theorem dX7_wide_106 : decode cX7_wide 106 = .ok (.iconst 2, 1) := by decide +kernel
theorem dX7_wide_107 : decode cX7_wide 107 = .ok (.iload_n 3, 1) := by decide +kernel
theorem dX7_wide_108 : decode cX7_wide 108 = .ok (.i2l, 1) := by decide +kernel
theorem dX7_wide_109 : decode cX7_wide 109 = .ok (.lastore, 1) := by decide +kernel
theorem dX7_wide_110 : decode cX7_wide 110 = .ok (.lload 4, 2) := by decide +kernel
theorem dX7_wide_112 : decode cX7_wide 112 = .ok (.invokespecial 89, 3) := by decide +kernel
theorem dX7_wide_115 : decode cX7_wide 115 = .ok (.invokevirtual 92, 3) := by decide +kernel
theorem dX7_wide_118 : decode cX7_wide 118 = .ok (.ireturn, 1) := by decide +kernel
theorem dX7_share_0 : decode cX7_share 0 = .ok (.aload_n 0, 1) := by decide +kernel
theorem dX7_share_1 : decode cX7_share 1 = .ok (.getfield 10, 3) := by decide +kernel
theorem dX7_share_4 : decode cX7_share 4 = .ok (.invokevirtual 76, 3) := by decide +kernel
theorem dX7_share_7 : decode cX7_share 7 = .ok (.aload_n 0, 1) := by decide +kernel
theorem dX7_share_8 : decode cX7_share 8 = .ok (.getfield 19, 3) := by decide +kernel
theorem dX7_share_11 : decode cX7_share 11 = .ok (.invokevirtual 79, 3) := by decide +kernel
theorem dX7_share_14 : decode cX7_share 14 = .ok (.ifCond .eq 6, 3) := by decide +kernel
theorem dX7_share_17 : decode cX7_share 17 = .ok (.bipush (-3), 2) := by decide +kernel
theorem dX7_share_19 : decode cX7_share 19 = .ok (.ireturn, 1) := by decide +kernel
theorem dX7_share_20 : decode cX7_share 20 = .ok (.lload_n 3, 1) := by decide +kernel
theorem dX7_share_21 : decode cX7_share 21 = .ok (.lconst 0, 1) := by decide +kernel
theorem dX7_share_22 : decode cX7_share 22 = .ok (.lcmp, 1) := by decide +kernel
theorem dX7_share_23 : decode cX7_share 23 = .ok (.ifCond .ne 14, 3) := by decide +kernel
theorem dX7_share_26 : decode cX7_share 26 = .ok (.aload_n 0, 1) := by decide +kernel
theorem dX7_share_27 : decode cX7_share 27 = .ok (.getfield 10, 3) := by decide +kernel
theorem dX7_share_30 : decode cX7_share 30 = .ok (.bipush 6, 2) := by decide +kernel
theorem dX7_share_32 : decode cX7_share 32 = .ok (.iconst 1, 1) := by decide +kernel
theorem dX7_share_33 : decode cX7_share 33 = .ok (.invokevirtual 104, 3) := by decide +kernel
theorem dX7_share_36 : decode cX7_share 36 = .ok (.ireturn, 1) := by decide +kernel
theorem dX7_share_37 : decode cX7_share 37 = .ok (.lload_n 1, 1) := by decide +kernel
theorem dX7_share_38 : decode cX7_share 38 = .ok (.lload_n 3, 1) := by decide +kernel
theorem dX7_share_39 : decode cX7_share 39 = .ok (.ldiv, 1) := by decide +kernel
theorem dX7_share_40 : decode cX7_share 40 = .ok (.lstore 5, 2) := by decide +kernel
theorem dX7_share_42 : decode cX7_share 42 = .ok (.aload_n 0, 1) := by decide +kernel
theorem dX7_share_43 : decode cX7_share 43 = .ok (.getfield 19, 3) := by decide +kernel
theorem dX7_share_46 : decode cX7_share 46 = .ok (.new 83, 3) := by decide +kernel
theorem dX7_share_49 : decode cX7_share 49 = .ok (.dup, 1) := by decide +kernel
theorem dX7_share_50 : decode cX7_share 50 = .ok (.iconst 3, 1) := by decide +kernel
theorem dX7_share_51 : decode cX7_share 51 = .ok (.iconst 3, 1) := by decide +kernel
theorem dX7_share_52 : decode cX7_share 52 = .ok (.newarray .long, 2) := by decide +kernel
theorem dX7_share_54 : decode cX7_share 54 = .ok (.dup, 1) := by decide +kernel
theorem dX7_share_55 : decode cX7_share 55 = .ok (.iconst 0, 1) := by decide +kernel
theorem dX7_share_56 : decode cX7_share 56 = .ok (.lload_n 1, 1) := by decide +kernel
theorem dX7_share_57 : decode cX7_share 57 = .ok (.lastore, 1) := by decide +kernel
theorem dX7_share_58 : decode cX7_share 58 = .ok (.dup, 1) := by decide +kernel
theorem dX7_share_59 : decode cX7_share 59 = .ok (.iconst 1, 1) := by decide +kernel
theorem dX7_share_60 : decode cX7_share 60 = .ok (.lload_n 3, 1) := by decide +kernel
theorem dX7_share_61 : decode cX7_share 61 = .ok (.lastore, 1) := by decide +kernel
theorem dX7_share_62 : decode cX7_share 62 = .ok (.dup, 1) := by decide +kernel
theorem dX7_share_63 : decode cX7_share 63 = .ok (.iconst 2, 1) := by decide +kernel
theorem dX7_share_64 : decode cX7_share 64 = .ok (.lload 5, 2) := by decide +kernel
theorem dX7_share_66 : decode cX7_share 66 = .ok (.lastore, 1) := by decide +kernel
theorem dX7_share_67 : decode cX7_share 67 = .ok (.lload 5, 2) := by decide +kernel
theorem dX7_share_69 : decode cX7_share 69 = .ok (.invokespecial 89, 3) := by decide +kernel
theorem dX7_share_72 : decode cX7_share 72 = .ok (.invokevirtual 92, 3) := by decide +kernel
theorem dX7_share_75 : decode cX7_share 75 = .ok (.ireturn, 1) := by decide +kernel
theorem dX7_pair_0 : decode cX7_pair 0 = .ok (.aload_n 0, 1) := by decide +kernel
theorem dX7_pair_1 : decode cX7_pair 1 = .ok (.getfield 10, 3) := by decide +kernel
theorem dX7_pair_4 : decode cX7_pair 4 = .ok (.invokevirtual 76, 3) := by decide +kernel
theorem dX7_pair_7 : decode cX7_pair 7 = .ok (.aload_n 0, 1) := by decide +kernel
theorem dX7_pair_8 : decode cX7_pair 8 = .ok (.getfield 19, 3) := by decide +kernel
theorem dX7_pair_11 : decode cX7_pair 11 = .ok (.iload_n 1, 1) := by decide +kernel
theorem dX7_pair_12 : decode cX7_pair 12 = .ok (.invokevirtual 112, 3) := by decide +kernel
theorem dX7_pair_15 : decode cX7_pair 15 = .ok (.ifCond .eq 14, 3) := by decide +kernel
theorem dX7_pair_18 : decode cX7_pair 18 = .ok (.aload_n 0, 1) := by decide +kernel
theorem dX7_pair_19 : decode cX7_pair 19 = .ok (.getfield 19, 3) := by decide +kernel
theorem dX7_pair_22 : decode cX7_pair 22 = .ok (.iload_n 2, 1) := by decide +kernel
theorem dX7_pair_23 : decode cX7_pair 23 = .ok (.invokevirtual 112, 3) := by decide +kernel
theorem dX7_pair_26 : decode cX7_pair 26 = .ok (.ifCond .ne 6, 3) := by decide +kernel
theorem dX7_pair_29 : decode cX7_pair 29 = .ok (.bipush (-2), 2) := by decide +kernel
theorem dX7_pair_31 : decode cX7_pair 31 = .ok (.ireturn, 1) := by decide +kernel
theorem dX7_pair_32 : decode cX7_pair 32 = .ok (.aload_n 0, 1) := by decide +kernel
theorem dX7_pair_33 : decode cX7_pair 33 = .ok (.getfield 19, 3) := by decide +kernel
theorem dX7_pair_36 : decode cX7_pair 36 = .ok (.invokevirtual 79, 3) := by decide +kernel
theorem dX7_pair_39 : decode cX7_pair 39 = .ok (.ifCond .eq 6, 3) := by decide +kernel
theorem dX7_pair_42 : decode cX7_pair 42 = .ok (.bipush (-3), 2) := by decide +kernel
theorem dX7_pair_44 : decode cX7_pair 44 = .ok (.ireturn, 1) := by decide +kernel
theorem dX7_pair_45 : decode cX7_pair 45 = .ok (.iload_n 1, 1) := by decide +kernel
theorem dX7_pair_46 : decode cX7_pair 46 = .ok (.iconst (-1), 1) := by decide +kernel
theorem dX7_pair_47 : decode cX7_pair 47 = .ok (.if_icmp .ne 13, 3) := by decide +kernel
theorem dX7_pair_50 : decode cX7_pair 50 = .ok (.aload_n 0, 1) := by decide +kernel
theorem dX7_pair_51 : decode cX7_pair 51 = .ok (.getfield 10, 3) := by decide +kernel
theorem dX7_pair_54 : decode cX7_pair 54 = .ok (.iconst 1, 1) := by decide +kernel
theorem dX7_pair_55 : decode cX7_pair 55 = .ok (.iconst 0, 1) := by decide +kernel
theorem dX7_pair_56 : decode cX7_pair 56 = .ok (.invokevirtual 104, 3) := by decide +kernel
theorem dX7_pair_59 : decode cX7_pair 59 = .ok (.ireturn, 1) := by decide +kernel
theorem dX7_pair_60 : decode cX7_pair 60 = .ok (.aload_n 0, 1) := by decide +kernel
theorem dX7_pair_61 : decode cX7_pair 61 = .ok (.getfield 19, 3) := by decide +kernel
theorem dX7_pair_64 : decode cX7_pair 64 = .ok (.new 83, 3) := by decide +kernel
theorem dX7_pair_67 : decode cX7_pair 67 = .ok (.dup, 1) := by decide +kernel
theorem dX7_pair_68 : decode cX7_pair 68 = .ok (.iconst 4, 1) := by decide +kernel
theorem dX7_pair_69 : decode cX7_pair 69 = .ok (.iconst 2, 1) := by decide +kernel
theorem dX7_pair_70 : decode cX7_pair 70 = .ok (.newarray .long, 2) := by decide +kernel
theorem dX7_pair_72 : decode cX7_pair 72 = .ok (.dup, 1) := by decide +kernel
theorem dX7_pair_73 : decode cX7_pair 73 = .ok (.iconst 0, 1) := by decide +kernel
theorem dX7_pair_74 : decode cX7_pair 74 = .ok (.iload_n 1, 1) := by decide +kernel
theorem dX7_pair_75 : decode cX7_pair 75 = .ok (.i2l, 1) := by decide +kernel
theorem dX7_pair_76 : decode cX7_pair 76 = .ok (.lastore, 1) := by decide +kernel
theorem dX7_pair_77 : decode cX7_pair 77 = .ok (.dup, 1) := by decide +kernel
theorem dX7_pair_78 : decode cX7_pair 78 = .ok (.iconst 1, 1) := by decide +kernel
theorem dX7_pair_79 : decode cX7_pair 79 = .ok (.iload_n 2, 1) := by decide +kernel
theorem dX7_pair_80 : decode cX7_pair 80 = .ok (.i2l, 1) := by decide +kernel
theorem dX7_pair_81 : decode cX7_pair 81 = .ok (.lastore, 1) := by decide +kernel
theorem dX7_pair_82 : decode cX7_pair 82 = .ok (.lconst 0, 1) := by decide +kernel
theorem dX7_pair_83 : decode cX7_pair 83 = .ok (.invokespecial 89, 3) := by decide +kernel
theorem dX7_pair_86 : decode cX7_pair 86 = .ok (.invokevirtual 92, 3) := by decide +kernel
theorem dX7_pair_89 : decode cX7_pair 89 = .ok (.ireturn, 1) := by decide +kernel
theorem dX7_row_0 : decode cX7_row 0 = .ok (.aload_n 0, 1) := by decide +kernel
theorem dX7_row_1 : decode cX7_row 1 = .ok (.getfield 10, 3) := by decide +kernel
theorem dX7_row_4 : decode cX7_row 4 = .ok (.invokevirtual 76, 3) := by decide +kernel
theorem dX7_row_7 : decode cX7_row 7 = .ok (.iload_n 1, 1) := by decide +kernel
theorem dX7_row_8 : decode cX7_row 8 = .ok (.bipush 12, 2) := by decide +kernel
theorem dX7_row_10 : decode cX7_row 10 = .ok (.if_icmp .le 6, 3) := by decide +kernel
theorem dX7_row_13 : decode cX7_row 13 = .ok (.bipush (-2), 2) := by decide +kernel
theorem dX7_row_15 : decode cX7_row 15 = .ok (.ireturn, 1) := by decide +kernel
theorem dX7_row_16 : decode cX7_row 16 = .ok (.aload_n 0, 1) := by decide +kernel
theorem dX7_row_17 : decode cX7_row 17 = .ok (.getfield 19, 3) := by decide +kernel
theorem dX7_row_20 : decode cX7_row 20 = .ok (.invokevirtual 79, 3) := by decide +kernel
theorem dX7_row_23 : decode cX7_row 23 = .ok (.ifCond .eq 6, 3) := by decide +kernel
theorem dX7_row_26 : decode cX7_row 26 = .ok (.bipush (-3), 2) := by decide +kernel
theorem dX7_row_28 : decode cX7_row 28 = .ok (.ireturn, 1) := by decide +kernel
theorem dX7_row_29 : decode cX7_row 29 = .ok (.iload_n 1, 1) := by decide +kernel
theorem dX7_row_30 : decode cX7_row 30 = .ok (.ifCond .ge 13, 3) := by decide +kernel
theorem dX7_row_33 : decode cX7_row 33 = .ok (.aload_n 0, 1) := by decide +kernel
theorem dX7_row_34 : decode cX7_row 34 = .ok (.getfield 10, 3) := by decide +kernel
theorem dX7_row_37 : decode cX7_row 37 = .ok (.iconst 5, 1) := by decide +kernel
theorem dX7_row_38 : decode cX7_row 38 = .ok (.iconst 0, 1) := by decide +kernel
theorem dX7_row_39 : decode cX7_row 39 = .ok (.invokevirtual 104, 3) := by decide +kernel
theorem dX7_row_42 : decode cX7_row 42 = .ok (.ireturn, 1) := by decide +kernel
theorem dX7_row_43 : decode cX7_row 43 = .ok (.iload_n 2, 1) := by decide +kernel
theorem dX7_row_44 : decode cX7_row 44 = .ok (.ifCond .lt 8, 3) := by decide +kernel
theorem dX7_row_47 : decode cX7_row 47 = .ok (.iload_n 2, 1) := by decide +kernel
theorem dX7_row_48 : decode cX7_row 48 = .ok (.iload_n 1, 1) := by decide +kernel
theorem dX7_row_49 : decode cX7_row 49 = .ok (.if_icmp .lt 13, 3) := by decide +kernel
theorem dX7_row_52 : decode cX7_row 52 = .ok (.aload_n 0, 1) := by decide +kernel
theorem dX7_row_53 : decode cX7_row 53 = .ok (.getfield 10, 3) := by decide +kernel
theorem dX7_row_56 : decode cX7_row 56 = .ok (.iconst 2, 1) := by decide +kernel
theorem dX7_row_57 : decode cX7_row 57 = .ok (.iconst 1, 1) := by decide +kernel
theorem dX7_row_58 : decode cX7_row 58 = .ok (.invokevirtual 104, 3) := by decide +kernel
theorem dX7_row_61 : decode cX7_row 61 = .ok (.ireturn, 1) := by decide +kernel
theorem dX7_row_62 : decode cX7_row 62 = .ok (.aload_n 0, 1) := by decide +kernel
theorem dX7_row_63 : decode cX7_row 63 = .ok (.iload_n 2, 1) := by decide +kernel
theorem dX7_row_64 : decode cX7_row 64 = .ok (.invokevirtual 116, 3) := by decide +kernel
theorem dX7_row_67 : decode cX7_row 67 = .ok (.istore_n 3, 1) := by decide +kernel
theorem dX7_row_68 : decode cX7_row 68 = .ok (.aload_n 0, 1) := by decide +kernel
theorem dX7_row_69 : decode cX7_row 69 = .ok (.getfield 19, 3) := by decide +kernel
theorem dX7_row_72 : decode cX7_row 72 = .ok (.new 83, 3) := by decide +kernel
theorem dX7_row_75 : decode cX7_row 75 = .ok (.dup, 1) := by decide +kernel
theorem dX7_row_76 : decode cX7_row 76 = .ok (.iconst 5, 1) := by decide +kernel
theorem dX7_row_77 : decode cX7_row 77 = .ok (.aload_n 0, 1) := by decide +kernel
theorem dX7_row_78 : decode cX7_row 78 = .ok (.iload_n 1, 1) := by decide +kernel
theorem dX7_row_79 : decode cX7_row 79 = .ok (.iload_n 2, 1) := by decide +kernel
theorem dX7_row_80 : decode cX7_row 80 = .ok (.iload_n 3, 1) := by decide +kernel
theorem dX7_row_81 : decode cX7_row 81 = .ok (.invokevirtual 120, 3) := by decide +kernel
theorem dX7_row_84 : decode cX7_row 84 = .ok (.iload_n 3, 1) := by decide +kernel
theorem dX7_row_85 : decode cX7_row 85 = .ok (.i2l, 1) := by decide +kernel
theorem dX7_row_86 : decode cX7_row 86 = .ok (.invokespecial 89, 3) := by decide +kernel
theorem dX7_row_89 : decode cX7_row 89 = .ok (.invokevirtual 92, 3) := by decide +kernel
theorem dX7_row_92 : decode cX7_row 92 = .ok (.ireturn, 1) := by decide +kernel
theorem dX7_shelf_0 : decode cX7_shelf 0 = .ok (.aload_n 0, 1) := by decide +kernel
theorem dX7_shelf_1 : decode cX7_shelf 1 = .ok (.getfield 10, 3) := by decide +kernel
theorem dX7_shelf_4 : decode cX7_shelf 4 = .ok (.invokevirtual 76, 3) := by decide +kernel
theorem dX7_shelf_7 : decode cX7_shelf 7 = .ok (.iload_n 2, 1) := by decide +kernel
theorem dX7_shelf_8 : decode cX7_shelf 8 = .ok (.bipush 12, 2) := by decide +kernel
theorem dX7_shelf_10 : decode cX7_shelf 10 = .ok (.if_icmp .le 6, 3) := by decide +kernel
theorem dX7_shelf_13 : decode cX7_shelf 13 = .ok (.bipush (-2), 2) := by decide +kernel
theorem dX7_shelf_15 : decode cX7_shelf 15 = .ok (.ireturn, 1) := by decide +kernel
theorem dX7_shelf_16 : decode cX7_shelf 16 = .ok (.aload_n 0, 1) := by decide +kernel
theorem dX7_shelf_17 : decode cX7_shelf 17 = .ok (.getfield 19, 3) := by decide +kernel
theorem dX7_shelf_20 : decode cX7_shelf 20 = .ok (.invokevirtual 79, 3) := by decide +kernel
theorem dX7_shelf_23 : decode cX7_shelf 23 = .ok (.ifCond .eq 6, 3) := by decide +kernel
theorem dX7_shelf_26 : decode cX7_shelf 26 = .ok (.bipush (-3), 2) := by decide +kernel
theorem dX7_shelf_28 : decode cX7_shelf 28 = .ok (.ireturn, 1) := by decide +kernel
theorem dX7_shelf_29 : decode cX7_shelf 29 = .ok (.iload_n 2, 1) := by decide +kernel
theorem dX7_shelf_30 : decode cX7_shelf 30 = .ok (.ifCond .ge 13, 3) := by decide +kernel
theorem dX7_shelf_33 : decode cX7_shelf 33 = .ok (.aload_n 0, 1) := by decide +kernel
theorem dX7_shelf_34 : decode cX7_shelf 34 = .ok (.getfield 10, 3) := by decide +kernel
theorem dX7_shelf_37 : decode cX7_shelf 37 = .ok (.iconst 5, 1) := by decide +kernel
theorem dX7_shelf_38 : decode cX7_shelf 38 = .ok (.iconst 0, 1) := by decide +kernel
theorem dX7_shelf_39 : decode cX7_shelf 39 = .ok (.invokevirtual 104, 3) := by decide +kernel
theorem dX7_shelf_42 : decode cX7_shelf 42 = .ok (.ireturn, 1) := by decide +kernel
theorem dX7_shelf_43 : decode cX7_shelf 43 = .ok (.iconst 1, 1) := by decide +kernel
theorem dX7_shelf_44 : decode cX7_shelf 44 = .ok (.iload_n 2, 1) := by decide +kernel
theorem dX7_shelf_45 : decode cX7_shelf 45 = .ok (.iadd, 1) := by decide +kernel
theorem dX7_shelf_46 : decode cX7_shelf 46 = .ok (.newarray .long, 2) := by decide +kernel
theorem dX7_shelf_48 : decode cX7_shelf 48 = .ok (.astore_n 3, 1) := by decide +kernel
theorem dX7_shelf_49 : decode cX7_shelf 49 = .ok (.aload_n 3, 1) := by decide +kernel
theorem dX7_shelf_50 : decode cX7_shelf 50 = .ok (.iconst 0, 1) := by decide +kernel
theorem dX7_shelf_51 : decode cX7_shelf 51 = .ok (.iload_n 2, 1) := by decide +kernel
theorem dX7_shelf_52 : decode cX7_shelf 52 = .ok (.i2l, 1) := by decide +kernel
theorem dX7_shelf_53 : decode cX7_shelf 53 = .ok (.lastore, 1) := by decide +kernel
theorem dX7_shelf_54 : decode cX7_shelf 54 = .ok (.iconst 1, 1) := by decide +kernel
theorem dX7_shelf_55 : decode cX7_shelf 55 = .ok (.istore 4, 2) := by decide +kernel
theorem dX7_shelf_57 : decode cX7_shelf 57 = .ok (.iload 4, 2) := by decide +kernel
theorem dX7_shelf_59 : decode cX7_shelf 59 = .ok (.aload_n 3, 1) := by decide +kernel
theorem dX7_shelf_60 : decode cX7_shelf 60 = .ok (.arraylength, 1) := by decide +kernel
theorem dX7_shelf_61 : decode cX7_shelf 61 = .ok (.if_icmp .ge 16, 3) := by decide +kernel
theorem dX7_shelf_64 : decode cX7_shelf 64 = .ok (.aload_n 3, 1) := by decide +kernel
theorem dX7_shelf_65 : decode cX7_shelf 65 = .ok (.iload 4, 2) := by decide +kernel
theorem dX7_shelf_67 : decode cX7_shelf 67 = .ok (.ldc2_w 124, 3) := by decide +kernel
theorem dX7_shelf_70 : decode cX7_shelf 70 = .ok (.lastore, 1) := by decide +kernel
theorem dX7_shelf_71 : decode cX7_shelf 71 = .ok (.iinc 4 1, 3) := by decide +kernel
theorem dX7_shelf_74 : decode cX7_shelf 74 = .ok (.goto (-17), 3) := by decide +kernel
theorem dX7_shelf_77 : decode cX7_shelf 77 = .ok (.new 83, 3) := by decide +kernel
theorem dX7_shelf_80 : decode cX7_shelf 80 = .ok (.dup, 1) := by decide +kernel
theorem dX7_shelf_81 : decode cX7_shelf 81 = .ok (.bipush 6, 2) := by decide +kernel
theorem dX7_shelf_83 : decode cX7_shelf 83 = .ok (.aload_n 3, 1) := by decide +kernel
theorem dX7_shelf_84 : decode cX7_shelf 84 = .ok (.lconst 0, 1) := by decide +kernel
theorem dX7_shelf_85 : decode cX7_shelf 85 = .ok (.invokespecial 89, 3) := by decide +kernel
theorem dX7_shelf_88 : decode cX7_shelf 88 = .ok (.astore 4, 2) := by decide +kernel
theorem dX7_shelf_90 : decode cX7_shelf 90 = .ok (.aload 4, 2) := by decide +kernel
theorem dX7_shelf_92 : decode cX7_shelf 92 = .ok (.iload_n 1, 1) := by decide +kernel
theorem dX7_shelf_93 : decode cX7_shelf 93 = .ok (.putfield 126, 3) := by decide +kernel
theorem dX7_shelf_96 : decode cX7_shelf 96 = .ok (.aload_n 0, 1) := by decide +kernel
theorem dX7_shelf_97 : decode cX7_shelf 97 = .ok (.getfield 19, 3) := by decide +kernel
theorem dX7_shelf_100 : decode cX7_shelf 100 = .ok (.aload 4, 2) := by decide +kernel
theorem dX7_shelf_102 : decode cX7_shelf 102 = .ok (.invokevirtual 92, 3) := by decide +kernel
theorem dX7_shelf_105 : decode cX7_shelf 105 = .ok (.ireturn, 1) := by decide +kernel
theorem dX7_set_0 : decode cX7_set 0 = .ok (.aload_n 0, 1) := by decide +kernel
theorem dX7_set_1 : decode cX7_set 1 = .ok (.getfield 10, 3) := by decide +kernel
theorem dX7_set_4 : decode cX7_set 4 = .ok (.invokevirtual 76, 3) := by decide +kernel
theorem dX7_set_7 : decode cX7_set 7 = .ok (.aload_n 0, 1) := by decide +kernel
theorem dX7_set_8 : decode cX7_set 8 = .ok (.getfield 19, 3) := by decide +kernel
theorem dX7_set_11 : decode cX7_set 11 = .ok (.iload_n 1, 1) := by decide +kernel
theorem dX7_set_12 : decode cX7_set 12 = .ok (.i2l, 1) := by decide +kernel
theorem dX7_set_13 : decode cX7_set 13 = .ok (.invokevirtual 130, 3) := by decide +kernel
theorem dX7_set_16 : decode cX7_set 16 = .ok (.astore 4, 2) := by decide +kernel
theorem dX7_set_18 : decode cX7_set 18 = .ok (.aload_n 0, 1) := by decide +kernel
theorem dX7_set_19 : decode cX7_set 19 = .ok (.getfield 19, 3) := by decide +kernel
theorem dX7_set_22 : decode cX7_set 22 = .ok (.iload_n 3, 1) := by decide +kernel
theorem dX7_set_23 : decode cX7_set 23 = .ok (.i2l, 1) := by decide +kernel
theorem dX7_set_24 : decode cX7_set 24 = .ok (.invokevirtual 130, 3) := by decide +kernel
theorem dX7_set_27 : decode cX7_set 27 = .ok (.astore 5, 2) := by decide +kernel
theorem dX7_set_29 : decode cX7_set 29 = .ok (.aload 4, 2) := by decide +kernel
theorem dX7_set_31 : decode cX7_set 31 = .ok (.ifnull 14, 3) := by decide +kernel
theorem dX7_set_34 : decode cX7_set 34 = .ok (.aload_n 0, 1) := by decide +kernel
theorem dX7_set_35 : decode cX7_set 35 = .ok (.getfield 19, 3) := by decide +kernel
theorem dX7_set_38 : decode cX7_set 38 = .ok (.iload_n 3, 1) := by decide +kernel
theorem dX7_set_39 : decode cX7_set 39 = .ok (.invokevirtual 112, 3) := by decide +kernel
theorem dX7_set_42 : decode cX7_set 42 = .ok (.ifCond .ne 6, 3) := by decide +kernel
theorem dX7_set_45 : decode cX7_set 45 = .ok (.bipush (-2), 2) := by decide +kernel
theorem dX7_set_47 : decode cX7_set 47 = .ok (.ireturn, 1) := by decide +kernel
theorem dX7_set_48 : decode cX7_set 48 = .ok (.aload 4, 2) := by decide +kernel
theorem dX7_set_50 : decode cX7_set 50 = .ok (.getfield 134, 3) := by decide +kernel
theorem dX7_set_53 : decode cX7_set 53 = .ok (.bipush 6, 2) := by decide +kernel
theorem dX7_set_55 : decode cX7_set 55 = .ok (.if_icmp .ne 17, 3) := by decide +kernel
theorem dX7_set_58 : decode cX7_set 58 = .ok (.aload 5, 2) := by decide +kernel
theorem dX7_set_60 : decode cX7_set 60 = .ok (.ifnull 21, 3) := by decide +kernel
theorem dX7_set_63 : decode cX7_set 63 = .ok (.aload 5, 2) := by decide +kernel
theorem dX7_set_65 : decode cX7_set 65 = .ok (.iconst 1, 1) := by decide +kernel
theorem dX7_set_66 : decode cX7_set 66 = .ok (.invokevirtual 137, 3) := by decide +kernel
theorem dX7_set_69 : decode cX7_set 69 = .ok (.ifCond .ne 12, 3) := by decide +kernel
theorem dX7_set_72 : decode cX7_set 72 = .ok (.aload_n 0, 1) := by decide +kernel
theorem dX7_set_73 : decode cX7_set 73 = .ok (.getfield 10, 3) := by decide +kernel
theorem dX7_set_76 : decode cX7_set 76 = .ok (.iconst 3, 1) := by decide +kernel
theorem dX7_set_77 : decode cX7_set 77 = .ok (.invokevirtual 140, 3) := by decide +kernel
theorem dX7_set_80 : decode cX7_set 80 = .ok (.ireturn, 1) := by decide +kernel
theorem dX7_set_81 : decode cX7_set 81 = .ok (.aload 4, 2) := by decide +kernel
theorem dX7_set_83 : decode cX7_set 83 = .ok (.iload_n 2, 1) := by decide +kernel
theorem dX7_set_84 : decode cX7_set 84 = .ok (.invokevirtual 143, 3) := by decide +kernel
theorem dX7_set_87 : decode cX7_set 87 = .ok (.ifCond .ne 12, 3) := by decide +kernel
theorem dX7_set_90 : decode cX7_set 90 = .ok (.aload_n 0, 1) := by decide +kernel
theorem dX7_set_91 : decode cX7_set 91 = .ok (.getfield 10, 3) := by decide +kernel
theorem dX7_set_94 : decode cX7_set 94 = .ok (.iconst 2, 1) := by decide +kernel
theorem dX7_set_95 : decode cX7_set 95 = .ok (.invokevirtual 140, 3) := by decide +kernel
theorem dX7_set_98 : decode cX7_set 98 = .ok (.ireturn, 1) := by decide +kernel
theorem dX7_set_99 : decode cX7_set 99 = .ok (.aload 4, 2) := by decide +kernel
theorem dX7_set_101 : decode cX7_set 101 = .ok (.getfield 126, 3) := by decide +kernel
theorem dX7_set_104 : decode cX7_set 104 = .ok (.ifCond .eq 26, 3) := by decide +kernel
theorem dX7_set_107 : decode cX7_set 107 = .ok (.aload 5, 2) := by decide +kernel
theorem dX7_set_109 : decode cX7_set 109 = .ok (.ifnull 21, 3) := by decide +kernel
theorem dX7_set_112 : decode cX7_set 112 = .ok (.aload 5, 2) := by decide +kernel
theorem dX7_set_114 : decode cX7_set 114 = .ok (.iconst 2, 1) := by decide +kernel
theorem dX7_set_115 : decode cX7_set 115 = .ok (.invokevirtual 137, 3) := by decide +kernel
theorem dX7_set_118 : decode cX7_set 118 = .ok (.ifCond .ne 12, 3) := by decide +kernel
theorem dX7_set_121 : decode cX7_set 121 = .ok (.aload_n 0, 1) := by decide +kernel
theorem dX7_set_122 : decode cX7_set 122 = .ok (.getfield 10, 3) := by decide +kernel
theorem dX7_set_125 : decode cX7_set 125 = .ok (.iconst 4, 1) := by decide +kernel
theorem dX7_set_126 : decode cX7_set 126 = .ok (.invokevirtual 140, 3) := by decide +kernel
theorem dX7_set_129 : decode cX7_set 129 = .ok (.ireturn, 1) := by decide +kernel
theorem dX7_set_130 : decode cX7_set 130 = .ok (.aload 4, 2) := by decide +kernel
theorem dX7_set_132 : decode cX7_set 132 = .ok (.iload_n 2, 1) := by decide +kernel
theorem dX7_set_133 : decode cX7_set 133 = .ok (.iload_n 3, 1) := by decide +kernel
theorem dX7_set_134 : decode cX7_set 134 = .ok (.invokevirtual 146, 3) := by decide +kernel
theorem dX7_set_137 : decode cX7_set 137 = .ok (.iconst 1, 1) := by decide +kernel
theorem dX7_set_138 : decode cX7_set 138 = .ok (.ireturn, 1) := by decide +kernel
theorem dX7_at_0 : decode cX7_at 0 = .ok (.aload_n 0, 1) := by decide +kernel
theorem dX7_at_1 : decode cX7_at 1 = .ok (.getfield 10, 3) := by decide +kernel
theorem dX7_at_4 : decode cX7_at 4 = .ok (.invokevirtual 76, 3) := by decide +kernel
theorem dX7_at_7 : decode cX7_at 7 = .ok (.aload_n 0, 1) := by decide +kernel
theorem dX7_at_8 : decode cX7_at 8 = .ok (.getfield 19, 3) := by decide +kernel
theorem dX7_at_11 : decode cX7_at 11 = .ok (.iload_n 1, 1) := by decide +kernel
theorem dX7_at_12 : decode cX7_at 12 = .ok (.i2l, 1) := by decide +kernel
theorem dX7_at_13 : decode cX7_at 13 = .ok (.invokevirtual 130, 3) := by decide +kernel
theorem dX7_at_16 : decode cX7_at 16 = .ok (.astore_n 3, 1) := by decide +kernel
theorem dX7_at_17 : decode cX7_at 17 = .ok (.aload_n 3, 1) := by decide +kernel
theorem dX7_at_18 : decode cX7_at 18 = .ok (.ifnonnull 6, 3) := by decide +kernel
theorem dX7_at_21 : decode cX7_at 21 = .ok (.bipush (-2), 2) := by decide +kernel
theorem dX7_at_23 : decode cX7_at 23 = .ok (.ireturn, 1) := by decide +kernel
theorem dX7_at_24 : decode cX7_at 24 = .ok (.aload_n 3, 1) := by decide +kernel
theorem dX7_at_25 : decode cX7_at 25 = .ok (.getfield 134, 3) := by decide +kernel
theorem dX7_at_28 : decode cX7_at 28 = .ok (.bipush 6, 2) := by decide +kernel
theorem dX7_at_30 : decode cX7_at 30 = .ok (.if_icmp .eq 12, 3) := by decide +kernel
theorem dX7_at_33 : decode cX7_at 33 = .ok (.aload_n 0, 1) := by decide +kernel
theorem dX7_at_34 : decode cX7_at 34 = .ok (.getfield 10, 3) := by decide +kernel
theorem dX7_at_37 : decode cX7_at 37 = .ok (.iconst 3, 1) := by decide +kernel
theorem dX7_at_38 : decode cX7_at 38 = .ok (.invokevirtual 140, 3) := by decide +kernel
theorem dX7_at_41 : decode cX7_at 41 = .ok (.ireturn, 1) := by decide +kernel
theorem dX7_at_42 : decode cX7_at 42 = .ok (.aload_n 3, 1) := by decide +kernel
theorem dX7_at_43 : decode cX7_at 43 = .ok (.iload_n 2, 1) := by decide +kernel
theorem dX7_at_44 : decode cX7_at 44 = .ok (.invokevirtual 143, 3) := by decide +kernel
theorem dX7_at_47 : decode cX7_at 47 = .ok (.ifCond .ne 12, 3) := by decide +kernel
theorem dX7_at_50 : decode cX7_at 50 = .ok (.aload_n 0, 1) := by decide +kernel
theorem dX7_at_51 : decode cX7_at 51 = .ok (.getfield 10, 3) := by decide +kernel
theorem dX7_at_54 : decode cX7_at 54 = .ok (.iconst 2, 1) := by decide +kernel
theorem dX7_at_55 : decode cX7_at 55 = .ok (.invokevirtual 140, 3) := by decide +kernel
theorem dX7_at_58 : decode cX7_at 58 = .ok (.ireturn, 1) := by decide +kernel
theorem dX7_at_59 : decode cX7_at 59 = .ok (.aload_n 3, 1) := by decide +kernel
theorem dX7_at_60 : decode cX7_at 60 = .ok (.getfield 150, 3) := by decide +kernel
theorem dX7_at_63 : decode cX7_at 63 = .ok (.iconst 1, 1) := by decide +kernel
theorem dX7_at_64 : decode cX7_at 64 = .ok (.iload_n 2, 1) := by decide +kernel
theorem dX7_at_65 : decode cX7_at 65 = .ok (.iadd, 1) := by decide +kernel
theorem dX7_at_66 : decode cX7_at 66 = .ok (.laload, 1) := by decide +kernel
theorem dX7_at_67 : decode cX7_at 67 = .ok (.l2i, 1) := by decide +kernel
theorem dX7_at_68 : decode cX7_at 68 = .ok (.ireturn, 1) := by decide +kernel
theorem dX7_kind_0 : decode cX7_kind 0 = .ok (.aload_n 0, 1) := by decide +kernel
theorem dX7_kind_1 : decode cX7_kind 1 = .ok (.getfield 19, 3) := by decide +kernel
theorem dX7_kind_4 : decode cX7_kind 4 = .ok (.iload_n 1, 1) := by decide +kernel
theorem dX7_kind_5 : decode cX7_kind 5 = .ok (.i2l, 1) := by decide +kernel
theorem dX7_kind_6 : decode cX7_kind 6 = .ok (.invokevirtual 130, 3) := by decide +kernel
theorem dX7_kind_9 : decode cX7_kind 9 = .ok (.astore_n 2, 1) := by decide +kernel
theorem dX7_kind_10 : decode cX7_kind 10 = .ok (.aload_n 2, 1) := by decide +kernel
theorem dX7_kind_11 : decode cX7_kind 11 = .ok (.ifnonnull 8, 3) := by decide +kernel
theorem dX7_kind_14 : decode cX7_kind 14 = .ok (.bipush (-2), 2) := by decide +kernel
theorem dX7_kind_16 : decode cX7_kind 16 = .ok (.goto 7, 3) := by decide +kernel
theorem dX7_kind_19 : decode cX7_kind 19 = .ok (.aload_n 2, 1) := by decide +kernel
theorem dX7_kind_20 : decode cX7_kind 20 = .ok (.getfield 134, 3) := by decide +kernel
theorem dX7_kind_23 : decode cX7_kind 23 = .ok (.ireturn, 1) := by decide +kernel
theorem dX7_parts_0 : decode cX7_parts 0 = .ok (.aload_n 0, 1) := by decide +kernel
theorem dX7_parts_1 : decode cX7_parts 1 = .ok (.getfield 19, 3) := by decide +kernel
theorem dX7_parts_4 : decode cX7_parts 4 = .ok (.iload_n 1, 1) := by decide +kernel
theorem dX7_parts_5 : decode cX7_parts 5 = .ok (.i2l, 1) := by decide +kernel
theorem dX7_parts_6 : decode cX7_parts 6 = .ok (.invokevirtual 130, 3) := by decide +kernel
theorem dX7_parts_9 : decode cX7_parts 9 = .ok (.astore_n 2, 1) := by decide +kernel
theorem dX7_parts_10 : decode cX7_parts 10 = .ok (.aload_n 2, 1) := by decide +kernel
theorem dX7_parts_11 : decode cX7_parts 11 = .ok (.ifnonnull 8, 3) := by decide +kernel
theorem dX7_parts_14 : decode cX7_parts 14 = .ok (.bipush (-2), 2) := by decide +kernel
theorem dX7_parts_16 : decode cX7_parts 16 = .ok (.goto 8, 3) := by decide +kernel
theorem dX7_parts_19 : decode cX7_parts 19 = .ok (.aload_n 2, 1) := by decide +kernel
theorem dX7_parts_20 : decode cX7_parts 20 = .ok (.getfield 150, 3) := by decide +kernel
theorem dX7_parts_23 : decode cX7_parts 23 = .ok (.arraylength, 1) := by decide +kernel
theorem dX7_parts_24 : decode cX7_parts 24 = .ok (.ireturn, 1) := by decide +kernel
theorem dX7_part_0 : decode cX7_part 0 = .ok (.aload_n 0, 1) := by decide +kernel
theorem dX7_part_1 : decode cX7_part 1 = .ok (.getfield 19, 3) := by decide +kernel
theorem dX7_part_4 : decode cX7_part 4 = .ok (.iload_n 1, 1) := by decide +kernel
theorem dX7_part_5 : decode cX7_part 5 = .ok (.i2l, 1) := by decide +kernel
theorem dX7_part_6 : decode cX7_part 6 = .ok (.invokevirtual 130, 3) := by decide +kernel
theorem dX7_part_9 : decode cX7_part 9 = .ok (.astore_n 3, 1) := by decide +kernel
theorem dX7_part_10 : decode cX7_part 10 = .ok (.aload_n 3, 1) := by decide +kernel
theorem dX7_part_11 : decode cX7_part 11 = .ok (.ifnull 16, 3) := by decide +kernel
theorem dX7_part_14 : decode cX7_part 14 = .ok (.iload_n 2, 1) := by decide +kernel
theorem dX7_part_15 : decode cX7_part 15 = .ok (.ifCond .lt 12, 3) := by decide +kernel
theorem dX7_part_18 : decode cX7_part 18 = .ok (.iload_n 2, 1) := by decide +kernel
theorem dX7_part_19 : decode cX7_part 19 = .ok (.aload_n 3, 1) := by decide +kernel
theorem dX7_part_20 : decode cX7_part 20 = .ok (.getfield 150, 3) := by decide +kernel
theorem dX7_part_23 : decode cX7_part 23 = .ok (.arraylength, 1) := by decide +kernel
theorem dX7_part_24 : decode cX7_part 24 = .ok (.if_icmp .lt 7, 3) := by decide +kernel
theorem dX7_part_27 : decode cX7_part 27 = .ok (.ldc2_w 154, 3) := by decide +kernel
theorem dX7_part_30 : decode cX7_part 30 = .ok (.lreturn, 1) := by decide +kernel
theorem dX7_part_31 : decode cX7_part 31 = .ok (.aload_n 3, 1) := by decide +kernel
theorem dX7_part_32 : decode cX7_part 32 = .ok (.getfield 150, 3) := by decide +kernel
theorem dX7_part_35 : decode cX7_part 35 = .ok (.iload_n 2, 1) := by decide +kernel
theorem dX7_part_36 : decode cX7_part 36 = .ok (.laload, 1) := by decide +kernel
theorem dX7_part_37 : decode cX7_part 37 = .ok (.lreturn, 1) := by decide +kernel
theorem dX7_weight_0 : decode cX7_weight 0 = .ok (.aload_n 0, 1) := by decide +kernel
theorem dX7_weight_1 : decode cX7_weight 1 = .ok (.getfield 19, 3) := by decide +kernel
theorem dX7_weight_4 : decode cX7_weight 4 = .ok (.iload_n 1, 1) := by decide +kernel
theorem dX7_weight_5 : decode cX7_weight 5 = .ok (.i2l, 1) := by decide +kernel
theorem dX7_weight_6 : decode cX7_weight 6 = .ok (.invokevirtual 130, 3) := by decide +kernel
theorem dX7_weight_9 : decode cX7_weight 9 = .ok (.astore_n 3, 1) := by decide +kernel
theorem dX7_weight_10 : decode cX7_weight 10 = .ok (.aload_n 3, 1) := by decide +kernel
theorem dX7_weight_11 : decode cX7_weight 11 = .ok (.ifnonnull 7, 3) := by decide +kernel
theorem dX7_weight_14 : decode cX7_weight 14 = .ok (.ldc2_w 154, 3) := by decide +kernel
theorem dX7_weight_17 : decode cX7_weight 17 = .ok (.lreturn, 1) := by decide +kernel
theorem dX7_weight_18 : decode cX7_weight 18 = .ok (.aload_n 0, 1) := by decide +kernel
theorem dX7_weight_19 : decode cX7_weight 19 = .ok (.getfield 19, 3) := by decide +kernel
theorem dX7_weight_22 : decode cX7_weight 22 = .ok (.invokevirtual 156, 3) := by decide +kernel
theorem dX7_weight_25 : decode cX7_weight 25 = .ok (.iload_n 2, 1) := by decide +kernel
theorem dX7_weight_26 : decode cX7_weight 26 = .ok (.ifCond .eq 10, 3) := by decide +kernel
theorem dX7_weight_29 : decode cX7_weight 29 = .ok (.aload_n 3, 1) := by decide +kernel
theorem dX7_weight_30 : decode cX7_weight 30 = .ok (.invokevirtual 159, 3) := by decide +kernel
theorem dX7_weight_33 : decode cX7_weight 33 = .ok (.goto 7, 3) := by decide +kernel
theorem dX7_weight_36 : decode cX7_weight 36 = .ok (.aload_n 3, 1) := by decide +kernel
theorem dX7_weight_37 : decode cX7_weight 37 = .ok (.getfield 163, 3) := by decide +kernel
theorem dX7_weight_40 : decode cX7_weight 40 = .ok (.lreturn, 1) := by decide +kernel
theorem dX7_equal_0 : decode cX7_equal 0 = .ok (.aload_n 0, 1) := by decide +kernel
theorem dX7_equal_1 : decode cX7_equal 1 = .ok (.getfield 19, 3) := by decide +kernel
theorem dX7_equal_4 : decode cX7_equal 4 = .ok (.iload_n 1, 1) := by decide +kernel
theorem dX7_equal_5 : decode cX7_equal 5 = .ok (.i2l, 1) := by decide +kernel
theorem dX7_equal_6 : decode cX7_equal 6 = .ok (.invokevirtual 130, 3) := by decide +kernel
theorem dX7_equal_9 : decode cX7_equal 9 = .ok (.astore_n 3, 1) := by decide +kernel
theorem dX7_equal_10 : decode cX7_equal 10 = .ok (.aload_n 0, 1) := by decide +kernel
theorem dX7_equal_11 : decode cX7_equal 11 = .ok (.getfield 19, 3) := by decide +kernel
theorem dX7_equal_14 : decode cX7_equal 14 = .ok (.iload_n 2, 1) := by decide +kernel
theorem dX7_equal_15 : decode cX7_equal 15 = .ok (.i2l, 1) := by decide +kernel
theorem dX7_equal_16 : decode cX7_equal 16 = .ok (.invokevirtual 130, 3) := by decide +kernel
theorem dX7_equal_19 : decode cX7_equal 19 = .ok (.astore 4, 2) := by decide +kernel
theorem dX7_equal_21 : decode cX7_equal 21 = .ok (.aload_n 3, 1) := by decide +kernel
theorem dX7_equal_22 : decode cX7_equal 22 = .ok (.ifnull 8, 3) := by decide +kernel
theorem dX7_equal_25 : decode cX7_equal 25 = .ok (.aload 4, 2) := by decide +kernel
theorem dX7_equal_27 : decode cX7_equal 27 = .ok (.ifnonnull 6, 3) := by decide +kernel
theorem dX7_equal_30 : decode cX7_equal 30 = .ok (.bipush (-2), 2) := by decide +kernel
theorem dX7_equal_32 : decode cX7_equal 32 = .ok (.ireturn, 1) := by decide +kernel
theorem dX7_equal_33 : decode cX7_equal 33 = .ok (.aload_n 3, 1) := by decide +kernel
theorem dX7_equal_34 : decode cX7_equal 34 = .ok (.aload 4, 2) := by decide +kernel
theorem dX7_equal_36 : decode cX7_equal 36 = .ok (.invokevirtual 166, 3) := by decide +kernel
theorem dX7_equal_39 : decode cX7_equal 39 = .ok (.ifCond .eq 7, 3) := by decide +kernel
theorem dX7_equal_42 : decode cX7_equal 42 = .ok (.iconst 1, 1) := by decide +kernel
theorem dX7_equal_43 : decode cX7_equal 43 = .ok (.goto 4, 3) := by decide +kernel
theorem dX7_equal_46 : decode cX7_equal 46 = .ok (.iconst 0, 1) := by decide +kernel
theorem dX7_equal_47 : decode cX7_equal 47 = .ok (.ireturn, 1) := by decide +kernel
theorem dX7_hash_0 : decode cX7_hash 0 = .ok (.aload_n 0, 1) := by decide +kernel
theorem dX7_hash_1 : decode cX7_hash 1 = .ok (.getfield 19, 3) := by decide +kernel
theorem dX7_hash_4 : decode cX7_hash 4 = .ok (.iload_n 1, 1) := by decide +kernel
theorem dX7_hash_5 : decode cX7_hash 5 = .ok (.i2l, 1) := by decide +kernel
theorem dX7_hash_6 : decode cX7_hash 6 = .ok (.invokevirtual 130, 3) := by decide +kernel
theorem dX7_hash_9 : decode cX7_hash 9 = .ok (.astore_n 2, 1) := by decide +kernel
theorem dX7_hash_10 : decode cX7_hash 10 = .ok (.aload_n 2, 1) := by decide +kernel
theorem dX7_hash_11 : decode cX7_hash 11 = .ok (.ifnonnull 7, 3) := by decide +kernel
theorem dX7_hash_14 : decode cX7_hash 14 = .ok (.iconst 0, 1) := by decide +kernel
theorem dX7_hash_15 : decode cX7_hash 15 = .ok (.goto 7, 3) := by decide +kernel
theorem dX7_hash_18 : decode cX7_hash 18 = .ok (.aload_n 2, 1) := by decide +kernel
theorem dX7_hash_19 : decode cX7_hash 19 = .ok (.getfield 170, 3) := by decide +kernel
theorem dX7_hash_22 : decode cX7_hash 22 = .ok (.ireturn, 1) := by decide +kernel
theorem dX7_order_0 : decode cX7_order 0 = .ok (.aload_n 0, 1) := by decide +kernel
theorem dX7_order_1 : decode cX7_order 1 = .ok (.getfield 19, 3) := by decide +kernel
theorem dX7_order_4 : decode cX7_order 4 = .ok (.iload_n 1, 1) := by decide +kernel
theorem dX7_order_5 : decode cX7_order 5 = .ok (.i2l, 1) := by decide +kernel
theorem dX7_order_6 : decode cX7_order 6 = .ok (.invokevirtual 130, 3) := by decide +kernel
theorem dX7_order_9 : decode cX7_order 9 = .ok (.astore_n 3, 1) := by decide +kernel
theorem dX7_order_10 : decode cX7_order 10 = .ok (.aload_n 0, 1) := by decide +kernel
theorem dX7_order_11 : decode cX7_order 11 = .ok (.getfield 19, 3) := by decide +kernel
theorem dX7_order_14 : decode cX7_order 14 = .ok (.iload_n 2, 1) := by decide +kernel
theorem dX7_order_15 : decode cX7_order 15 = .ok (.i2l, 1) := by decide +kernel
theorem dX7_order_16 : decode cX7_order 16 = .ok (.invokevirtual 130, 3) := by decide +kernel
theorem dX7_order_19 : decode cX7_order 19 = .ok (.astore 4, 2) := by decide +kernel
theorem dX7_order_21 : decode cX7_order 21 = .ok (.aload_n 3, 1) := by decide +kernel
theorem dX7_order_22 : decode cX7_order 22 = .ok (.ifnull 8, 3) := by decide +kernel
theorem dX7_order_25 : decode cX7_order 25 = .ok (.aload 4, 2) := by decide +kernel
theorem dX7_order_27 : decode cX7_order 27 = .ok (.ifnonnull 6, 3) := by decide +kernel
theorem dX7_order_30 : decode cX7_order 30 = .ok (.bipush (-2), 2) := by decide +kernel
theorem dX7_order_32 : decode cX7_order 32 = .ok (.ireturn, 1) := by decide +kernel
theorem dX7_order_33 : decode cX7_order 33 = .ok (.aload_n 3, 1) := by decide +kernel
theorem dX7_order_34 : decode cX7_order 34 = .ok (.getfield 173, 3) := by decide +kernel
theorem dX7_order_37 : decode cX7_order 37 = .ok (.aload 4, 2) := by decide +kernel
theorem dX7_order_39 : decode cX7_order 39 = .ok (.getfield 173, 3) := by decide +kernel
theorem dX7_order_42 : decode cX7_order 42 = .ok (.invokestatic 176, 3) := by decide +kernel
theorem dX7_order_45 : decode cX7_order 45 = .ok (.ireturn, 1) := by decide +kernel
theorem dX7_ranked_0 : decode cX7_ranked 0 = .ok (.iload_n 1, 1) := by decide +kernel
theorem dX7_ranked_1 : decode cX7_ranked 1 = .ok (.ifCond .ge 8, 3) := by decide +kernel
theorem dX7_ranked_4 : decode cX7_ranked 4 = .ok (.bipush (-2), 2) := by decide +kernel
theorem dX7_ranked_6 : decode cX7_ranked 6 = .ok (.goto 11, 3) := by decide +kernel
theorem dX7_ranked_9 : decode cX7_ranked 9 = .ok (.aload_n 0, 1) := by decide +kernel
theorem dX7_ranked_10 : decode cX7_ranked 10 = .ok (.getfield 19, 3) := by decide +kernel
theorem dX7_ranked_13 : decode cX7_ranked 13 = .ok (.iload_n 1, 1) := by decide +kernel
theorem dX7_ranked_14 : decode cX7_ranked 14 = .ok (.invokevirtual 181, 3) := by decide +kernel
theorem dX7_ranked_17 : decode cX7_ranked 17 = .ok (.ireturn, 1) := by decide +kernel
theorem dX7_first_0 : decode cX7_first 0 = .ok (.aload_n 0, 1) := by decide +kernel
theorem dX7_first_1 : decode cX7_first 1 = .ok (.getfield 19, 3) := by decide +kernel
theorem dX7_first_4 : decode cX7_first 4 = .ok (.iload_n 1, 1) := by decide +kernel
theorem dX7_first_5 : decode cX7_first 5 = .ok (.i2l, 1) := by decide +kernel
theorem dX7_first_6 : decode cX7_first 6 = .ok (.invokevirtual 130, 3) := by decide +kernel
theorem dX7_first_9 : decode cX7_first 9 = .ok (.astore_n 2, 1) := by decide +kernel
theorem dX7_first_10 : decode cX7_first 10 = .ok (.aload_n 2, 1) := by decide +kernel
theorem dX7_first_11 : decode cX7_first 11 = .ok (.ifnonnull 8, 3) := by decide +kernel
theorem dX7_first_14 : decode cX7_first 14 = .ok (.bipush (-2), 2) := by decide +kernel
theorem dX7_first_16 : decode cX7_first 16 = .ok (.goto 11, 3) := by decide +kernel
theorem dX7_first_19 : decode cX7_first 19 = .ok (.aload_n 0, 1) := by decide +kernel
theorem dX7_first_20 : decode cX7_first 20 = .ok (.getfield 19, 3) := by decide +kernel
theorem dX7_first_23 : decode cX7_first 23 = .ok (.aload_n 2, 1) := by decide +kernel
theorem dX7_first_24 : decode cX7_first 24 = .ok (.invokevirtual 184, 3) := by decide +kernel
theorem dX7_first_27 : decode cX7_first 27 = .ok (.ireturn, 1) := by decide +kernel
theorem dX7_family_0 : decode cX7_family 0 = .ok (.iconst 4, 1) := by decide +kernel
theorem dX7_family_1 : decode cX7_family 1 = .ok (.newarray .int, 2) := by decide +kernel
theorem dX7_family_3 : decode cX7_family 3 = .ok (.dup, 1) := by decide +kernel
theorem dX7_family_4 : decode cX7_family 4 = .ok (.iconst 0, 1) := by decide +kernel
theorem dX7_family_5 : decode cX7_family 5 = .ok (.iload_n 1, 1) := by decide +kernel
theorem dX7_family_6 : decode cX7_family 6 = .ok (.iastore, 1) := by decide +kernel
theorem dX7_family_7 : decode cX7_family 7 = .ok (.dup, 1) := by decide +kernel
theorem dX7_family_8 : decode cX7_family 8 = .ok (.iconst 1, 1) := by decide +kernel
theorem dX7_family_9 : decode cX7_family 9 = .ok (.iload_n 2, 1) := by decide +kernel
theorem dX7_family_10 : decode cX7_family 10 = .ok (.iastore, 1) := by decide +kernel
theorem dX7_family_11 : decode cX7_family 11 = .ok (.dup, 1) := by decide +kernel
theorem dX7_family_12 : decode cX7_family 12 = .ok (.iconst 2, 1) := by decide +kernel
theorem dX7_family_13 : decode cX7_family 13 = .ok (.iload_n 3, 1) := by decide +kernel
theorem dX7_family_14 : decode cX7_family 14 = .ok (.iastore, 1) := by decide +kernel
theorem dX7_family_15 : decode cX7_family 15 = .ok (.dup, 1) := by decide +kernel
theorem dX7_family_16 : decode cX7_family 16 = .ok (.iconst 3, 1) := by decide +kernel
theorem dX7_family_17 : decode cX7_family 17 = .ok (.iload 4, 2) := by decide +kernel
theorem dX7_family_19 : decode cX7_family 19 = .ok (.iastore, 1) := by decide +kernel
theorem dX7_family_20 : decode cX7_family 20 = .ok (.astore 5, 2) := by decide +kernel
theorem dX7_family_22 : decode cX7_family 22 = .ok (.aload 5, 2) := by decide +kernel
theorem dX7_family_24 : decode cX7_family 24 = .ok (.invokestatic 187, 3) := by decide +kernel
theorem dX7_family_27 : decode cX7_family 27 = .ok (.ifCond .ne 6, 3) := by decide +kernel
theorem dX7_family_30 : decode cX7_family 30 = .ok (.bipush (-2), 2) := by decide +kernel
theorem dX7_family_32 : decode cX7_family 32 = .ok (.ireturn, 1) := by decide +kernel
theorem dX7_family_33 : decode cX7_family 33 = .ok (.aload_n 0, 1) := by decide +kernel
theorem dX7_family_34 : decode cX7_family 34 = .ok (.getfield 37, 3) := by decide +kernel
theorem dX7_family_37 : decode cX7_family 37 = .ok (.bipush 6, 2) := by decide +kernel
theorem dX7_family_39 : decode cX7_family 39 = .ok (.if_icmp .lt 6, 3) := by decide +kernel
theorem dX7_family_42 : decode cX7_family 42 = .ok (.bipush (-3), 2) := by decide +kernel
theorem dX7_family_44 : decode cX7_family 44 = .ok (.ireturn, 1) := by decide +kernel
theorem dX7_family_45 : decode cX7_family 45 = .ok (.aload_n 0, 1) := by decide +kernel
theorem dX7_family_46 : decode cX7_family 46 = .ok (.getfield 33, 3) := by decide +kernel
theorem dX7_family_49 : decode cX7_family 49 = .ok (.aload_n 0, 1) := by decide +kernel
theorem dX7_family_50 : decode cX7_family 50 = .ok (.getfield 37, 3) := by decide +kernel
theorem dX7_family_53 : decode cX7_family 53 = .ok (.new 31, 3) := by decide +kernel
theorem dX7_family_56 : decode cX7_family 56 = .ok (.dup, 1) := by decide +kernel
theorem dX7_family_57 : decode cX7_family 57 = .ok (.aload 5, 2) := by decide +kernel
theorem dX7_family_59 : decode cX7_family 59 = .ok (.invokespecial 191, 3) := by decide +kernel
theorem dX7_family_62 : decode cX7_family 62 = .ok (.aastore, 1) := by decide +kernel
theorem dX7_family_63 : decode cX7_family 63 = .ok (.aload_n 0, 1) := by decide +kernel
theorem dX7_family_64 : decode cX7_family 64 = .ok (.dup, 1) := by decide +kernel
theorem dX7_family_65 : decode cX7_family 65 = .ok (.getfield 37, 3) := by decide +kernel
theorem dX7_family_68 : decode cX7_family 68 = .ok (.iconst 1, 1) := by decide +kernel
theorem dX7_family_69 : decode cX7_family 69 = .ok (.iadd, 1) := by decide +kernel
theorem dX7_family_70 : decode cX7_family 70 = .ok (.putfield 37, 3) := by decide +kernel
theorem dX7_family_73 : decode cX7_family 73 = .ok (.aload_n 0, 1) := by decide +kernel
theorem dX7_family_74 : decode cX7_family 74 = .ok (.getfield 37, 3) := by decide +kernel
theorem dX7_family_77 : decode cX7_family 77 = .ok (.iconst 1, 1) := by decide +kernel
theorem dX7_family_78 : decode cX7_family 78 = .ok (.isub, 1) := by decide +kernel
theorem dX7_family_79 : decode cX7_family 79 = .ok (.ireturn, 1) := by decide +kernel
theorem dX7_tag_0 : decode cX7_tag 0 = .ok (.aload_n 0, 1) := by decide +kernel
theorem dX7_tag_1 : decode cX7_tag 1 = .ok (.iload_n 1, 1) := by decide +kernel
theorem dX7_tag_2 : decode cX7_tag 2 = .ok (.invokevirtual 194, 3) := by decide +kernel
theorem dX7_tag_5 : decode cX7_tag 5 = .ok (.astore_n 3, 1) := by decide +kernel
theorem dX7_tag_6 : decode cX7_tag 6 = .ok (.aload_n 0, 1) := by decide +kernel
theorem dX7_tag_7 : decode cX7_tag 7 = .ok (.getfield 19, 3) := by decide +kernel
theorem dX7_tag_10 : decode cX7_tag 10 = .ok (.iload_n 2, 1) := by decide +kernel
theorem dX7_tag_11 : decode cX7_tag 11 = .ok (.i2l, 1) := by decide +kernel
theorem dX7_tag_12 : decode cX7_tag 12 = .ok (.invokevirtual 130, 3) := by decide +kernel
theorem dX7_tag_15 : decode cX7_tag 15 = .ok (.astore 4, 2) := by decide +kernel
theorem dX7_tag_17 : decode cX7_tag 17 = .ok (.aload_n 3, 1) := by decide +kernel
theorem dX7_tag_18 : decode cX7_tag 18 = .ok (.ifnull 8, 3) := by decide +kernel
theorem dX7_tag_21 : decode cX7_tag 21 = .ok (.aload 4, 2) := by decide +kernel
theorem dX7_tag_23 : decode cX7_tag 23 = .ok (.ifnonnull 6, 3) := by decide +kernel
theorem dX7_tag_26 : decode cX7_tag 26 = .ok (.bipush (-2), 2) := by decide +kernel
theorem dX7_tag_28 : decode cX7_tag 28 = .ok (.ireturn, 1) := by decide +kernel
theorem dX7_tag_29 : decode cX7_tag 29 = .ok (.aload_n 3, 1) := by decide +kernel
theorem dX7_tag_30 : decode cX7_tag 30 = .ok (.aload 4, 2) := by decide +kernel
theorem dX7_tag_32 : decode cX7_tag 32 = .ok (.invokevirtual 198, 3) := by decide +kernel
theorem dX7_tag_35 : decode cX7_tag 35 = .ok (.ireturn, 1) := by decide +kernel
theorem dX7_tagged_0 : decode cX7_tagged 0 = .ok (.aload_n 0, 1) := by decide +kernel
theorem dX7_tagged_1 : decode cX7_tagged 1 = .ok (.iload_n 1, 1) := by decide +kernel
theorem dX7_tagged_2 : decode cX7_tagged 2 = .ok (.invokevirtual 194, 3) := by decide +kernel
theorem dX7_tagged_5 : decode cX7_tagged 5 = .ok (.astore_n 3, 1) := by decide +kernel
theorem dX7_tagged_6 : decode cX7_tagged 6 = .ok (.aload_n 3, 1) := by decide +kernel
theorem dX7_tagged_7 : decode cX7_tagged 7 = .ok (.ifnull 13, 3) := by decide +kernel
theorem dX7_tagged_10 : decode cX7_tagged 10 = .ok (.iload_n 2, 1) := by decide +kernel
theorem dX7_tagged_11 : decode cX7_tagged 11 = .ok (.iconst (-1), 1) := by decide +kernel
theorem dX7_tagged_12 : decode cX7_tagged 12 = .ok (.if_icmp .lt 8, 3) := by decide +kernel
theorem dX7_tagged_15 : decode cX7_tagged 15 = .ok (.iload_n 2, 1) := by decide +kernel
theorem dX7_tagged_16 : decode cX7_tagged 16 = .ok (.iconst 4, 1) := by decide +kernel
theorem dX7_tagged_17 : decode cX7_tagged 17 = .ok (.if_icmp .lt 6, 3) := by decide +kernel
theorem dX7_tagged_20 : decode cX7_tagged 20 = .ok (.bipush (-2), 2) := by decide +kernel
theorem dX7_tagged_22 : decode cX7_tagged 22 = .ok (.ireturn, 1) := by decide +kernel
theorem dX7_tagged_23 : decode cX7_tagged 23 = .ok (.iconst 0, 1) := by decide +kernel
theorem dX7_tagged_24 : decode cX7_tagged 24 = .ok (.istore 4, 2) := by decide +kernel
theorem dX7_tagged_26 : decode cX7_tagged 26 = .ok (.iconst 0, 1) := by decide +kernel
theorem dX7_tagged_27 : decode cX7_tagged 27 = .ok (.istore 5, 2) := by decide +kernel
theorem dX7_tagged_29 : decode cX7_tagged 29 = .ok (.iload 5, 2) := by decide +kernel
theorem dX7_tagged_31 : decode cX7_tagged 31 = .ok (.aload_n 0, 1) := by decide +kernel
theorem dX7_tagged_32 : decode cX7_tagged 32 = .ok (.getfield 19, 3) := by decide +kernel
theorem dX7_tagged_35 : decode cX7_tagged 35 = .ok (.getfield 201, 3) := by decide +kernel
theorem dX7_tagged_38 : decode cX7_tagged 38 = .ok (.if_icmp .ge 39, 3) := by decide +kernel
theorem dX7_tagged_41 : decode cX7_tagged 41 = .ok (.aload_n 0, 1) := by decide +kernel
theorem dX7_tagged_42 : decode cX7_tagged 42 = .ok (.getfield 19, 3) := by decide +kernel
theorem dX7_tagged_45 : decode cX7_tagged 45 = .ok (.iload 5, 2) := by decide +kernel
theorem dX7_tagged_47 : decode cX7_tagged 47 = .ok (.i2l, 1) := by decide +kernel
theorem dX7_tagged_48 : decode cX7_tagged 48 = .ok (.invokevirtual 130, 3) := by decide +kernel
theorem dX7_tagged_51 : decode cX7_tagged 51 = .ok (.astore 6, 2) := by decide +kernel
theorem dX7_tagged_53 : decode cX7_tagged 53 = .ok (.aload 6, 2) := by decide +kernel
theorem dX7_tagged_55 : decode cX7_tagged 55 = .ok (.ifnull 16, 3) := by decide +kernel
theorem dX7_tagged_58 : decode cX7_tagged 58 = .ok (.aload_n 3, 1) := by decide +kernel
theorem dX7_tagged_59 : decode cX7_tagged 59 = .ok (.aload 6, 2) := by decide +kernel
theorem dX7_tagged_61 : decode cX7_tagged 61 = .ok (.invokevirtual 198, 3) := by decide +kernel
theorem dX7_tagged_64 : decode cX7_tagged 64 = .ok (.iload_n 2, 1) := by decide +kernel
theorem dX7_tagged_65 : decode cX7_tagged 65 = .ok (.if_icmp .ne 6, 3) := by decide +kernel
theorem dX7_tagged_68 : decode cX7_tagged 68 = .ok (.iinc 4 1, 3) := by decide +kernel
theorem dX7_tagged_71 : decode cX7_tagged 71 = .ok (.iinc 5 1, 3) := by decide +kernel
theorem dX7_tagged_74 : decode cX7_tagged 74 = .ok (.goto (-45), 3) := by decide +kernel
theorem dX7_tagged_77 : decode cX7_tagged 77 = .ok (.iload 4, 2) := by decide +kernel
theorem dX7_tagged_79 : decode cX7_tagged 79 = .ok (.ireturn, 1) := by decide +kernel
theorem dX7_constant_0 : decode cX7_constant 0 = .ok (.aload_n 0, 1) := by decide +kernel
theorem dX7_constant_1 : decode cX7_constant 1 = .ok (.iload_n 1, 1) := by decide +kernel
theorem dX7_constant_2 : decode cX7_constant 2 = .ok (.invokevirtual 204, 3) := by decide +kernel
theorem dX7_constant_5 : decode cX7_constant 5 = .ok (.astore_n 3, 1) := by decide +kernel
theorem dX7_constant_6 : decode cX7_constant 6 = .ok (.aload_n 3, 1) := by decide +kernel
theorem dX7_constant_7 : decode cX7_constant 7 = .ok (.ifnull 24, 3) := by decide +kernel
theorem dX7_constant_10 : decode cX7_constant 10 = .ok (.iload_n 2, 1) := by decide +kernel
theorem dX7_constant_11 : decode cX7_constant 11 = .ok (.ifCond .lt 20, 3) := by decide +kernel
theorem dX7_constant_14 : decode cX7_constant 14 = .ok (.iload_n 2, 1) := by decide +kernel
theorem dX7_constant_15 : decode cX7_constant 15 = .ok (.sipush 10000, 3) := by decide +kernel
theorem dX7_constant_18 : decode cX7_constant 18 = .ok (.if_icmp .ge 13, 3) := by decide +kernel
theorem dX7_constant_21 : decode cX7_constant 21 = .ok (.aload_n 0, 1) := by decide +kernel
theorem dX7_constant_22 : decode cX7_constant 22 = .ok (.aload_n 3, 1) := by decide +kernel
theorem dX7_constant_23 : decode cX7_constant 23 = .ok (.iload_n 2, 1) := by decide +kernel
theorem dX7_constant_24 : decode cX7_constant 24 = .ok (.invokevirtual 208, 3) := by decide +kernel
theorem dX7_constant_27 : decode cX7_constant 27 = .ok (.iconst (-1), 1) := by decide +kernel
theorem dX7_constant_28 : decode cX7_constant 28 = .ok (.if_icmp .eq 6, 3) := by decide +kernel
theorem dX7_constant_31 : decode cX7_constant 31 = .ok (.bipush (-2), 2) := by decide +kernel
theorem dX7_constant_33 : decode cX7_constant 33 = .ok (.ireturn, 1) := by decide +kernel
theorem dX7_constant_34 : decode cX7_constant 34 = .ok (.aload_n 0, 1) := by decide +kernel
theorem dX7_constant_35 : decode cX7_constant 35 = .ok (.getfield 46, 3) := by decide +kernel
theorem dX7_constant_38 : decode cX7_constant 38 = .ok (.bipush 60, 2) := by decide +kernel
theorem dX7_constant_40 : decode cX7_constant 40 = .ok (.if_icmp .lt 6, 3) := by decide +kernel
theorem dX7_constant_43 : decode cX7_constant 43 = .ok (.bipush (-3), 2) := by decide +kernel
theorem dX7_constant_45 : decode cX7_constant 45 = .ok (.ireturn, 1) := by decide +kernel
theorem dX7_constant_46 : decode cX7_constant 46 = .ok (.aload_n 0, 1) := by decide +kernel
theorem dX7_constant_47 : decode cX7_constant 47 = .ok (.getfield 46, 3) := by decide +kernel
theorem dX7_constant_50 : decode cX7_constant 50 = .ok (.istore 4, 2) := by decide +kernel
theorem dX7_constant_52 : decode cX7_constant 52 = .ok (.aload_n 0, 1) := by decide +kernel
theorem dX7_constant_53 : decode cX7_constant 53 = .ok (.getfield 42, 3) := by decide +kernel
theorem dX7_constant_56 : decode cX7_constant 56 = .ok (.iload 4, 2) := by decide +kernel
theorem dX7_constant_58 : decode cX7_constant 58 = .ok (.new 40, 3) := by decide +kernel
theorem dX7_constant_61 : decode cX7_constant 61 = .ok (.dup, 1) := by decide +kernel
theorem dX7_constant_62 : decode cX7_constant 62 = .ok (.iload_n 1, 1) := by decide +kernel
theorem dX7_constant_63 : decode cX7_constant 63 = .ok (.iload_n 2, 1) := by decide +kernel
theorem dX7_constant_64 : decode cX7_constant 64 = .ok (.invokespecial 212, 3) := by decide +kernel
theorem dX7_constant_67 : decode cX7_constant 67 = .ok (.aastore, 1) := by decide +kernel
theorem dX7_constant_68 : decode cX7_constant 68 = .ok (.aload_n 0, 1) := by decide +kernel
theorem dX7_constant_69 : decode cX7_constant 69 = .ok (.dup, 1) := by decide +kernel
theorem dX7_constant_70 : decode cX7_constant 70 = .ok (.getfield 46, 3) := by decide +kernel
theorem dX7_constant_73 : decode cX7_constant 73 = .ok (.iconst 1, 1) := by decide +kernel
theorem dX7_constant_74 : decode cX7_constant 74 = .ok (.iadd, 1) := by decide +kernel
theorem dX7_constant_75 : decode cX7_constant 75 = .ok (.putfield 46, 3) := by decide +kernel
theorem dX7_constant_78 : decode cX7_constant 78 = .ok (.aload_n 3, 1) := by decide +kernel
theorem dX7_constant_79 : decode cX7_constant 79 = .ok (.iload 4, 2) := by decide +kernel
theorem dX7_constant_81 : decode cX7_constant 81 = .ok (.invokevirtual 214, 3) := by decide +kernel
theorem dX7_constant_84 : decode cX7_constant 84 = .ok (.iload 4, 2) := by decide +kernel
theorem dX7_constant_86 : decode cX7_constant 86 = .ok (.ireturn, 1) := by decide +kernel
theorem dX7_named_0 : decode cX7_named 0 = .ok (.aload_n 0, 1) := by decide +kernel
theorem dX7_named_1 : decode cX7_named 1 = .ok (.getfield 10, 3) := by decide +kernel
theorem dX7_named_4 : decode cX7_named 4 = .ok (.invokevirtual 76, 3) := by decide +kernel
theorem dX7_named_7 : decode cX7_named 7 = .ok (.aload_n 0, 1) := by decide +kernel
theorem dX7_named_8 : decode cX7_named 8 = .ok (.iload_n 1, 1) := by decide +kernel
theorem dX7_named_9 : decode cX7_named 9 = .ok (.invokevirtual 204, 3) := by decide +kernel
theorem dX7_named_12 : decode cX7_named 12 = .ok (.astore_n 3, 1) := by decide +kernel
theorem dX7_named_13 : decode cX7_named 13 = .ok (.aload_n 3, 1) := by decide +kernel
theorem dX7_named_14 : decode cX7_named 14 = .ok (.ifnonnull 6, 3) := by decide +kernel
theorem dX7_named_17 : decode cX7_named 17 = .ok (.bipush (-2), 2) := by decide +kernel
theorem dX7_named_19 : decode cX7_named 19 = .ok (.ireturn, 1) := by decide +kernel
theorem dX7_named_20 : decode cX7_named 20 = .ok (.aload_n 0, 1) := by decide +kernel
theorem dX7_named_21 : decode cX7_named 21 = .ok (.aload_n 3, 1) := by decide +kernel
theorem dX7_named_22 : decode cX7_named 22 = .ok (.iload_n 2, 1) := by decide +kernel
theorem dX7_named_23 : decode cX7_named 23 = .ok (.invokevirtual 208, 3) := by decide +kernel
theorem dX7_named_26 : decode cX7_named 26 = .ok (.istore 4, 2) := by decide +kernel
theorem dX7_named_28 : decode cX7_named 28 = .ok (.iload 4, 2) := by decide +kernel
theorem dX7_named_30 : decode cX7_named 30 = .ok (.iconst (-1), 1) := by decide +kernel
theorem dX7_named_31 : decode cX7_named 31 = .ok (.if_icmp .ne 14, 3) := by decide +kernel
theorem dX7_named_34 : decode cX7_named 34 = .ok (.aload_n 0, 1) := by decide +kernel
theorem dX7_named_35 : decode cX7_named 35 = .ok (.getfield 10, 3) := by decide +kernel
theorem dX7_named_38 : decode cX7_named 38 = .ok (.iconst 1, 1) := by decide +kernel
theorem dX7_named_39 : decode cX7_named 39 = .ok (.invokevirtual 140, 3) := by decide +kernel
theorem dX7_named_42 : decode cX7_named 42 = .ok (.goto 5, 3) := by decide +kernel
theorem dX7_named_45 : decode cX7_named 45 = .ok (.iload 4, 2) := by decide +kernel
theorem dX7_named_47 : decode cX7_named 47 = .ok (.ireturn, 1) := by decide +kernel
theorem dX7_drop_0 : decode cX7_drop 0 = .ok (.aload_n 0, 1) := by decide +kernel
theorem dX7_drop_1 : decode cX7_drop 1 = .ok (.iload_n 1, 1) := by decide +kernel
theorem dX7_drop_2 : decode cX7_drop 2 = .ok (.invokevirtual 218, 3) := by decide +kernel
theorem dX7_drop_5 : decode cX7_drop 5 = .ok (.astore_n 2, 1) := by decide +kernel
theorem dX7_drop_6 : decode cX7_drop 6 = .ok (.aload_n 2, 1) := by decide +kernel
theorem dX7_drop_7 : decode cX7_drop 7 = .ok (.ifnonnull 7, 3) := by decide +kernel
theorem dX7_drop_10 : decode cX7_drop 10 = .ok (.iconst (-1), 1) := by decide +kernel
theorem dX7_drop_11 : decode cX7_drop 11 = .ok (.goto 8, 3) := by decide +kernel
theorem dX7_drop_14 : decode cX7_drop 14 = .ok (.aload_n 2, 1) := by decide +kernel
theorem dX7_drop_15 : decode cX7_drop 15 = .ok (.iload_n 1, 1) := by decide +kernel
theorem dX7_drop_16 : decode cX7_drop 16 = .ok (.invokevirtual 221, 3) := by decide +kernel
theorem dX7_drop_19 : decode cX7_drop 19 = .ok (.istore_n 3, 1) := by decide +kernel
theorem dX7_drop_20 : decode cX7_drop 20 = .ok (.iload_n 3, 1) := by decide +kernel
theorem dX7_drop_21 : decode cX7_drop 21 = .ok (.iconst (-1), 1) := by decide +kernel
theorem dX7_drop_22 : decode cX7_drop 22 = .ok (.if_icmp .ne 6, 3) := by decide +kernel
theorem dX7_drop_25 : decode cX7_drop 25 = .ok (.bipush (-2), 2) := by decide +kernel
theorem dX7_drop_27 : decode cX7_drop 27 = .ok (.ireturn, 1) := by decide +kernel
theorem dX7_drop_28 : decode cX7_drop 28 = .ok (.aload_n 2, 1) := by decide +kernel
theorem dX7_drop_29 : decode cX7_drop 29 = .ok (.iload_n 3, 1) := by decide +kernel
theorem dX7_drop_30 : decode cX7_drop 30 = .ok (.invokevirtual 224, 3) := by decide +kernel
theorem dX7_drop_33 : decode cX7_drop 33 = .ok (.aload_n 2, 1) := by decide +kernel
theorem dX7_drop_34 : decode cX7_drop 34 = .ok (.getfield 227, 3) := by decide +kernel
theorem dX7_drop_37 : decode cX7_drop 37 = .ok (.ireturn, 1) := by decide +kernel
theorem dX7_reorder_0 : decode cX7_reorder 0 = .ok (.aload_n 0, 1) := by decide +kernel
theorem dX7_reorder_1 : decode cX7_reorder 1 = .ok (.iload_n 1, 1) := by decide +kernel
theorem dX7_reorder_2 : decode cX7_reorder 2 = .ok (.invokevirtual 204, 3) := by decide +kernel
theorem dX7_reorder_5 : decode cX7_reorder 5 = .ok (.astore_n 2, 1) := by decide +kernel
theorem dX7_reorder_6 : decode cX7_reorder 6 = .ok (.aload_n 2, 1) := by decide +kernel
theorem dX7_reorder_7 : decode cX7_reorder 7 = .ok (.ifnonnull 6, 3) := by decide +kernel
theorem dX7_reorder_10 : decode cX7_reorder 10 = .ok (.bipush (-2), 2) := by decide +kernel
theorem dX7_reorder_12 : decode cX7_reorder 12 = .ok (.ireturn, 1) := by decide +kernel
theorem dX7_reorder_13 : decode cX7_reorder 13 = .ok (.aload_n 2, 1) := by decide +kernel
theorem dX7_reorder_14 : decode cX7_reorder 14 = .ok (.getfield 227, 3) := by decide +kernel
theorem dX7_reorder_17 : decode cX7_reorder 17 = .ok (.iconst 1, 1) := by decide +kernel
theorem dX7_reorder_18 : decode cX7_reorder 18 = .ok (.isub, 1) := by decide +kernel
theorem dX7_reorder_19 : decode cX7_reorder 19 = .ok (.istore_n 3, 1) := by decide +kernel
theorem dX7_reorder_20 : decode cX7_reorder 20 = .ok (.iload_n 3, 1) := by decide +kernel
theorem dX7_reorder_21 : decode cX7_reorder 21 = .ok (.iconst 1, 1) := by decide +kernel
theorem dX7_reorder_22 : decode cX7_reorder 22 = .ok (.if_icmp .lt 21, 3) := by decide +kernel
theorem dX7_reorder_25 : decode cX7_reorder 25 = .ok (.aload_n 2, 1) := by decide +kernel
theorem dX7_reorder_26 : decode cX7_reorder 26 = .ok (.iload_n 3, 1) := by decide +kernel
theorem dX7_reorder_27 : decode cX7_reorder 27 = .ok (.aload_n 0, 1) := by decide +kernel
theorem dX7_reorder_28 : decode cX7_reorder 28 = .ok (.iload_n 3, 1) := by decide +kernel
theorem dX7_reorder_29 : decode cX7_reorder 29 = .ok (.iconst 1, 1) := by decide +kernel
theorem dX7_reorder_30 : decode cX7_reorder 30 = .ok (.iadd, 1) := by decide +kernel
theorem dX7_reorder_31 : decode cX7_reorder 31 = .ok (.invokevirtual 230, 3) := by decide +kernel
theorem dX7_reorder_34 : decode cX7_reorder 34 = .ok (.invokevirtual 233, 3) := by decide +kernel
theorem dX7_reorder_37 : decode cX7_reorder 37 = .ok (.iinc 3 (-1), 3) := by decide +kernel
theorem dX7_reorder_40 : decode cX7_reorder 40 = .ok (.goto (-20), 3) := by decide +kernel
theorem dX7_reorder_43 : decode cX7_reorder 43 = .ok (.aload_n 2, 1) := by decide +kernel
theorem dX7_reorder_44 : decode cX7_reorder 44 = .ok (.getfield 227, 3) := by decide +kernel
theorem dX7_reorder_47 : decode cX7_reorder 47 = .ok (.ireturn, 1) := by decide +kernel
theorem dX7_seed_0 : decode cX7_seed 0 = .ok (.iload_n 1, 1) := by decide +kernel
theorem dX7_seed_1 : decode cX7_seed 1 = .ok (.iconst 1, 1) := by decide +kernel
theorem dX7_seed_2 : decode cX7_seed 2 = .ok (.if_icmp .lt 12, 3) := by decide +kernel
theorem dX7_seed_5 : decode cX7_seed 5 = .ok (.iload_n 1, 1) := by decide +kernel
theorem dX7_seed_6 : decode cX7_seed 6 = .ok (.i2l, 1) := by decide +kernel
theorem dX7_seed_7 : decode cX7_seed 7 = .ok (.ldc2_w 236, 3) := by decide +kernel
theorem dX7_seed_10 : decode cX7_seed 10 = .ok (.lcmp, 1) := by decide +kernel
theorem dX7_seed_11 : decode cX7_seed 11 = .ok (.ifCond .lt 6, 3) := by decide +kernel
theorem dX7_seed_14 : decode cX7_seed 14 = .ok (.bipush (-2), 2) := by decide +kernel
theorem dX7_seed_16 : decode cX7_seed 16 = .ok (.ireturn, 1) := by decide +kernel
theorem dX7_seed_17 : decode cX7_seed 17 = .ok (.aload_n 0, 1) := by decide +kernel
theorem dX7_seed_18 : decode cX7_seed 18 = .ok (.getfield 62, 3) := by decide +kernel
theorem dX7_seed_21 : decode cX7_seed 21 = .ok (.l2i, 1) := by decide +kernel
theorem dX7_seed_22 : decode cX7_seed 22 = .ok (.istore_n 2, 1) := by decide +kernel
theorem dX7_seed_23 : decode cX7_seed 23 = .ok (.aload_n 0, 1) := by decide +kernel
theorem dX7_seed_24 : decode cX7_seed 24 = .ok (.iload_n 1, 1) := by decide +kernel
theorem dX7_seed_25 : decode cX7_seed 25 = .ok (.i2l, 1) := by decide +kernel
theorem dX7_seed_26 : decode cX7_seed 26 = .ok (.putfield 62, 3) := by decide +kernel
theorem dX7_seed_29 : decode cX7_seed 29 = .ok (.iload_n 2, 1) := by decide +kernel
theorem dX7_seed_30 : decode cX7_seed 30 = .ok (.ireturn, 1) := by decide +kernel
theorem dX7_told_0 : decode cX7_told 0 = .ok (.aload_n 0, 1) := by decide +kernel
theorem dX7_told_1 : decode cX7_told 1 = .ok (.iload_n 1, 1) := by decide +kernel
theorem dX7_told_2 : decode cX7_told 2 = .ok (.invokevirtual 238, 3) := by decide +kernel
theorem dX7_told_5 : decode cX7_told 5 = .ok (.astore_n 3, 1) := by decide +kernel
theorem dX7_told_6 : decode cX7_told 6 = .ok (.aload_n 0, 1) := by decide +kernel
theorem dX7_told_7 : decode cX7_told 7 = .ok (.iload_n 1, 1) := by decide +kernel
theorem dX7_told_8 : decode cX7_told 8 = .ok (.invokevirtual 218, 3) := by decide +kernel
theorem dX7_told_11 : decode cX7_told 11 = .ok (.astore 4, 2) := by decide +kernel
theorem dX7_told_13 : decode cX7_told 13 = .ok (.aload_n 3, 1) := by decide +kernel
theorem dX7_told_14 : decode cX7_told 14 = .ok (.ifnull 8, 3) := by decide +kernel
theorem dX7_told_17 : decode cX7_told 17 = .ok (.aload 4, 2) := by decide +kernel
theorem dX7_told_19 : decode cX7_told 19 = .ok (.ifnonnull 6, 3) := by decide +kernel
theorem dX7_told_22 : decode cX7_told 22 = .ok (.bipush (-2), 2) := by decide +kernel
theorem dX7_told_24 : decode cX7_told 24 = .ok (.ireturn, 1) := by decide +kernel
theorem dX7_told_25 : decode cX7_told 25 = .ok (.iload_n 2, 1) := by decide +kernel
theorem dX7_told_26 : decode cX7_told 26 = .ok (.tableswitch 43 0 2 #[26, 31, 36], 26) := by decide +kernel
theorem dX7_told_52 : decode cX7_told 52 = .ok (.aload_n 3, 1) := by decide +kernel
theorem dX7_told_53 : decode cX7_told 53 = .ok (.getfield 242, 3) := by decide +kernel
theorem dX7_told_56 : decode cX7_told 56 = .ok (.ireturn, 1) := by decide +kernel
theorem dX7_told_57 : decode cX7_told 57 = .ok (.aload_n 3, 1) := by decide +kernel
theorem dX7_told_58 : decode cX7_told 58 = .ok (.getfield 245, 3) := by decide +kernel
theorem dX7_told_61 : decode cX7_told 61 = .ok (.ireturn, 1) := by decide +kernel
theorem dX7_told_62 : decode cX7_told 62 = .ok (.aload 4, 2) := by decide +kernel
theorem dX7_told_64 : decode cX7_told 64 = .ok (.iload_n 1, 1) := by decide +kernel
theorem dX7_told_65 : decode cX7_told 65 = .ok (.invokevirtual 221, 3) := by decide +kernel
theorem dX7_told_68 : decode cX7_told 68 = .ok (.ireturn, 1) := by decide +kernel
theorem dX7_told_69 : decode cX7_told 69 = .ok (.bipush (-2), 2) := by decide +kernel
theorem dX7_told_71 : decode cX7_told 71 = .ok (.ireturn, 1) := by decide +kernel
theorem dX7_placed_0 : decode cX7_placed 0 = .ok (.aload_n 0, 1) := by decide +kernel
theorem dX7_placed_1 : decode cX7_placed 1 = .ok (.iload_n 1, 1) := by decide +kernel
theorem dX7_placed_2 : decode cX7_placed 2 = .ok (.invokevirtual 204, 3) := by decide +kernel
theorem dX7_placed_5 : decode cX7_placed 5 = .ok (.astore_n 3, 1) := by decide +kernel
theorem dX7_placed_6 : decode cX7_placed 6 = .ok (.aload_n 3, 1) := by decide +kernel
theorem dX7_placed_7 : decode cX7_placed 7 = .ok (.ifnull 7, 3) := by decide +kernel
theorem dX7_placed_10 : decode cX7_placed 10 = .ok (.iload_n 2, 1) := by decide +kernel
theorem dX7_placed_11 : decode cX7_placed 11 = .ok (.ifCond .ge 6, 3) := by decide +kernel
theorem dX7_placed_14 : decode cX7_placed 14 = .ok (.bipush (-2), 2) := by decide +kernel
theorem dX7_placed_16 : decode cX7_placed 16 = .ok (.ireturn, 1) := by decide +kernel
theorem dX7_placed_17 : decode cX7_placed 17 = .ok (.iload_n 2, 1) := by decide +kernel
theorem dX7_placed_18 : decode cX7_placed 18 = .ok (.aload_n 3, 1) := by decide +kernel
theorem dX7_placed_19 : decode cX7_placed 19 = .ok (.getfield 227, 3) := by decide +kernel
theorem dX7_placed_22 : decode cX7_placed 22 = .ok (.if_icmp .ge 12, 3) := by decide +kernel
theorem dX7_placed_25 : decode cX7_placed 25 = .ok (.aload_n 3, 1) := by decide +kernel
theorem dX7_placed_26 : decode cX7_placed 26 = .ok (.getfield 248, 3) := by decide +kernel
theorem dX7_placed_29 : decode cX7_placed 29 = .ok (.iload_n 2, 1) := by decide +kernel
theorem dX7_placed_30 : decode cX7_placed 30 = .ok (.iaload, 1) := by decide +kernel
theorem dX7_placed_31 : decode cX7_placed 31 = .ok (.goto 4, 3) := by decide +kernel
theorem dX7_placed_34 : decode cX7_placed 34 = .ok (.iconst (-1), 1) := by decide +kernel
theorem dX7_placed_35 : decode cX7_placed 35 = .ok (.ireturn, 1) := by decide +kernel
theorem dX7_put_0 : decode cX7_put 0 = .ok (.aload_n 0, 1) := by decide +kernel
theorem dX7_put_1 : decode cX7_put 1 = .ok (.iload_n 1, 1) := by decide +kernel
theorem dX7_put_2 : decode cX7_put 2 = .ok (.invokevirtual 238, 3) := by decide +kernel
theorem dX7_put_5 : decode cX7_put 5 = .ok (.astore_n 3, 1) := by decide +kernel
theorem dX7_put_6 : decode cX7_put 6 = .ok (.aload_n 3, 1) := by decide +kernel
theorem dX7_put_7 : decode cX7_put 7 = .ok (.ifnonnull 8, 3) := by decide +kernel
theorem dX7_put_10 : decode cX7_put 10 = .ok (.bipush (-2), 2) := by decide +kernel
theorem dX7_put_12 : decode cX7_put 12 = .ok (.goto 15, 3) := by decide +kernel
theorem dX7_put_15 : decode cX7_put 15 = .ok (.aload_n 0, 1) := by decide +kernel
theorem dX7_put_16 : decode cX7_put 16 = .ok (.getfield 58, 3) := by decide +kernel
theorem dX7_put_19 : decode cX7_put 19 = .ok (.aload_n 3, 1) := by decide +kernel
theorem dX7_put_20 : decode cX7_put 20 = .ok (.invokestatic 251, 3) := by decide +kernel
theorem dX7_put_23 : decode cX7_put 23 = .ok (.iload_n 2, 1) := by decide +kernel
theorem dX7_put_24 : decode cX7_put 24 = .ok (.invokevirtual 255, 3) := by decide +kernel
theorem dX7_put_27 : decode cX7_put 27 = .ok (.ireturn, 1) := by decide +kernel
theorem dX7_get_0 : decode cX7_get 0 = .ok (.aload_n 0, 1) := by decide +kernel
theorem dX7_get_1 : decode cX7_get 1 = .ok (.iload_n 1, 1) := by decide +kernel
theorem dX7_get_2 : decode cX7_get 2 = .ok (.invokevirtual 238, 3) := by decide +kernel
theorem dX7_get_5 : decode cX7_get 5 = .ok (.astore_n 2, 1) := by decide +kernel
theorem dX7_get_6 : decode cX7_get 6 = .ok (.aload_n 2, 1) := by decide +kernel
theorem dX7_get_7 : decode cX7_get 7 = .ok (.ifnonnull 7, 3) := by decide +kernel
theorem dX7_get_10 : decode cX7_get 10 = .ok (.iconst 0, 1) := by decide +kernel
theorem dX7_get_11 : decode cX7_get 11 = .ok (.goto 14, 3) := by decide +kernel
theorem dX7_get_14 : decode cX7_get 14 = .ok (.aload_n 0, 1) := by decide +kernel
theorem dX7_get_15 : decode cX7_get 15 = .ok (.getfield 58, 3) := by decide +kernel
theorem dX7_get_18 : decode cX7_get 18 = .ok (.aload_n 2, 1) := by decide +kernel
theorem dX7_get_19 : decode cX7_get 19 = .ok (.invokestatic 251, 3) := by decide +kernel
theorem dX7_get_22 : decode cX7_get 22 = .ok (.invokevirtual 258, 3) := by decide +kernel
theorem dX7_get_25 : decode cX7_get 25 = .ok (.ireturn, 1) := by decide +kernel
theorem dX7_count_0 : decode cX7_count 0 = .ok (.iload_n 1, 1) := by decide +kernel
theorem dX7_count_1 : decode cX7_count 1 = .ok (.tableswitch 66 0 4 #[35, 43, 48, 53, 58], 35) := by decide +kernel
theorem dX7_count_36 : decode cX7_count 36 = .ok (.aload_n 0, 1) := by decide +kernel
theorem dX7_count_37 : decode cX7_count 37 = .ok (.getfield 19, 3) := by decide +kernel
theorem dX7_count_40 : decode cX7_count 40 = .ok (.getfield 201, 3) := by decide +kernel
theorem dX7_count_43 : decode cX7_count 43 = .ok (.ireturn, 1) := by decide +kernel
theorem dX7_count_44 : decode cX7_count 44 = .ok (.aload_n 0, 1) := by decide +kernel
theorem dX7_count_45 : decode cX7_count 45 = .ok (.getfield 27, 3) := by decide +kernel
theorem dX7_count_48 : decode cX7_count 48 = .ok (.ireturn, 1) := by decide +kernel
theorem dX7_count_49 : decode cX7_count 49 = .ok (.aload_n 0, 1) := by decide +kernel
theorem dX7_count_50 : decode cX7_count 50 = .ok (.getfield 37, 3) := by decide +kernel
theorem dX7_count_53 : decode cX7_count 53 = .ok (.ireturn, 1) := by decide +kernel
theorem dX7_count_54 : decode cX7_count 54 = .ok (.aload_n 0, 1) := by decide +kernel
theorem dX7_count_55 : decode cX7_count 55 = .ok (.invokevirtual 261, 3) := by decide +kernel
theorem dX7_count_58 : decode cX7_count 58 = .ok (.ireturn, 1) := by decide +kernel
theorem dX7_count_59 : decode cX7_count 59 = .ok (.aload_n 0, 1) := by decide +kernel
theorem dX7_count_60 : decode cX7_count 60 = .ok (.getfield 58, 3) := by decide +kernel
theorem dX7_count_63 : decode cX7_count 63 = .ok (.getfield 265, 3) := by decide +kernel
theorem dX7_count_66 : decode cX7_count 66 = .ok (.ireturn, 1) := by decide +kernel
theorem dX7_count_67 : decode cX7_count 67 = .ok (.aload_n 0, 1) := by decide +kernel
theorem dX7_count_68 : decode cX7_count 68 = .ok (.getfield 10, 3) := by decide +kernel
theorem dX7_count_71 : decode cX7_count 71 = .ok (.iload_n 1, 1) := by decide +kernel
theorem dX7_count_72 : decode cX7_count 72 = .ok (.bipush 10, 2) := by decide +kernel
theorem dX7_count_74 : decode cX7_count 74 = .ok (.isub, 1) := by decide +kernel
theorem dX7_count_75 : decode cX7_count 75 = .ok (.invokevirtual 266, 3) := by decide +kernel
theorem dX7_count_78 : decode cX7_count 78 = .ok (.ireturn, 1) := by decide +kernel
theorem dX7_oneNan_0 : decode cX7_oneNan 0 = .ok (.lload_n 0, 1) := by decide +kernel
theorem dX7_oneNan_1 : decode cX7_oneNan 1 = .ok (.ldc2_w 269, 3) := by decide +kernel
theorem dX7_oneNan_4 : decode cX7_oneNan 4 = .ok (.land, 1) := by decide +kernel
theorem dX7_oneNan_5 : decode cX7_oneNan 5 = .ok (.ldc2_w 271, 3) := by decide +kernel
theorem dX7_oneNan_8 : decode cX7_oneNan 8 = .ok (.lcmp, 1) := by decide +kernel
theorem dX7_oneNan_9 : decode cX7_oneNan 9 = .ok (.ifCond .le 7, 3) := by decide +kernel
theorem dX7_oneNan_12 : decode cX7_oneNan 12 = .ok (.iconst 1, 1) := by decide +kernel
theorem dX7_oneNan_13 : decode cX7_oneNan 13 = .ok (.goto 4, 3) := by decide +kernel
theorem dX7_oneNan_16 : decode cX7_oneNan 16 = .ok (.iconst 0, 1) := by decide +kernel
theorem dX7_oneNan_17 : decode cX7_oneNan 17 = .ok (.istore_n 2, 1) := by decide +kernel
theorem dX7_oneNan_18 : decode cX7_oneNan 18 = .ok (.iload_n 2, 1) := by decide +kernel
theorem dX7_oneNan_19 : decode cX7_oneNan 19 = .ok (.ifCond .eq 9, 3) := by decide +kernel
theorem dX7_oneNan_22 : decode cX7_oneNan 22 = .ok (.ldc2_w 273, 3) := by decide +kernel
theorem dX7_oneNan_25 : decode cX7_oneNan 25 = .ok (.goto 4, 3) := by decide +kernel
theorem dX7_oneNan_28 : decode cX7_oneNan 28 = .ok (.lload_n 0, 1) := by decide +kernel
theorem dX7_oneNan_29 : decode cX7_oneNan 29 = .ok (.lreturn, 1) := by decide +kernel
theorem dX7_lengthOf_0 : decode cX7_lengthOf 0 = .ok (.iload_n 1, 1) := by decide +kernel
theorem dX7_lengthOf_1 : decode cX7_lengthOf 1 = .ok (.i2l, 1) := by decide +kernel
theorem dX7_lengthOf_2 : decode cX7_lengthOf 2 = .ok (.iload_n 0, 1) := by decide +kernel
theorem dX7_lengthOf_3 : decode cX7_lengthOf 3 = .ok (.i2l, 1) := by decide +kernel
theorem dX7_lengthOf_4 : decode cX7_lengthOf 4 = .ok (.lsub, 1) := by decide +kernel
theorem dX7_lengthOf_5 : decode cX7_lengthOf 5 = .ok (.lconst 1, 1) := by decide +kernel
theorem dX7_lengthOf_6 : decode cX7_lengthOf 6 = .ok (.ladd, 1) := by decide +kernel
theorem dX7_lengthOf_7 : decode cX7_lengthOf 7 = .ok (.lreturn, 1) := by decide +kernel
theorem dX7_numberAt_0 : decode cX7_numberAt 0 = .ok (.iload_n 1, 1) := by decide +kernel
theorem dX7_numberAt_1 : decode cX7_numberAt 1 = .ok (.ifCond .lt 20, 3) := by decide +kernel
theorem dX7_numberAt_4 : decode cX7_numberAt 4 = .ok (.iload_n 1, 1) := by decide +kernel
theorem dX7_numberAt_5 : decode cX7_numberAt 5 = .ok (.aload_n 0, 1) := by decide +kernel
theorem dX7_numberAt_6 : decode cX7_numberAt 6 = .ok (.getfield 27, 3) := by decide +kernel
theorem dX7_numberAt_9 : decode cX7_numberAt 9 = .ok (.if_icmp .ge 12, 3) := by decide +kernel
theorem dX7_numberAt_12 : decode cX7_numberAt 12 = .ok (.aload_n 0, 1) := by decide +kernel
theorem dX7_numberAt_13 : decode cX7_numberAt 13 = .ok (.getfield 23, 3) := by decide +kernel
theorem dX7_numberAt_16 : decode cX7_numberAt 16 = .ok (.iload_n 1, 1) := by decide +kernel
theorem dX7_numberAt_17 : decode cX7_numberAt 17 = .ok (.iaload, 1) := by decide +kernel
theorem dX7_numberAt_18 : decode cX7_numberAt 18 = .ok (.goto 4, 3) := by decide +kernel
theorem dX7_numberAt_21 : decode cX7_numberAt 21 = .ok (.iconst 0, 1) := by decide +kernel
theorem dX7_numberAt_22 : decode cX7_numberAt 22 = .ok (.ireturn, 1) := by decide +kernel
theorem dX7_rowParts_0 : decode cX7_rowParts 0 = .ok (.iconst 3, 1) := by decide +kernel
theorem dX7_rowParts_1 : decode cX7_rowParts 1 = .ok (.iload_n 1, 1) := by decide +kernel
theorem dX7_rowParts_2 : decode cX7_rowParts 2 = .ok (.iadd, 1) := by decide +kernel
theorem dX7_rowParts_3 : decode cX7_rowParts 3 = .ok (.newarray .long, 2) := by decide +kernel
theorem dX7_rowParts_5 : decode cX7_rowParts 5 = .ok (.astore 4, 2) := by decide +kernel
theorem dX7_rowParts_7 : decode cX7_rowParts 7 = .ok (.aload 4, 2) := by decide +kernel
theorem dX7_rowParts_9 : decode cX7_rowParts 9 = .ok (.iconst 0, 1) := by decide +kernel
theorem dX7_rowParts_10 : decode cX7_rowParts 10 = .ok (.iload_n 1, 1) := by decide +kernel
theorem dX7_rowParts_11 : decode cX7_rowParts 11 = .ok (.i2l, 1) := by decide +kernel
theorem dX7_rowParts_12 : decode cX7_rowParts 12 = .ok (.lastore, 1) := by decide +kernel
theorem dX7_rowParts_13 : decode cX7_rowParts 13 = .ok (.aload 4, 2) := by decide +kernel
theorem dX7_rowParts_15 : decode cX7_rowParts 15 = .ok (.iconst 1, 1) := by decide +kernel
theorem dX7_rowParts_16 : decode cX7_rowParts 16 = .ok (.iload_n 2, 1) := by decide +kernel
theorem dX7_rowParts_17 : decode cX7_rowParts 17 = .ok (.i2l, 1) := by decide +kernel
theorem dX7_rowParts_18 : decode cX7_rowParts 18 = .ok (.lastore, 1) := by decide +kernel
theorem dX7_rowParts_19 : decode cX7_rowParts 19 = .ok (.aload 4, 2) := by decide +kernel
theorem dX7_rowParts_21 : decode cX7_rowParts 21 = .ok (.iconst 2, 1) := by decide +kernel
theorem dX7_rowParts_22 : decode cX7_rowParts 22 = .ok (.iload_n 3, 1) := by decide +kernel
theorem dX7_rowParts_23 : decode cX7_rowParts 23 = .ok (.i2l, 1) := by decide +kernel
theorem dX7_rowParts_24 : decode cX7_rowParts 24 = .ok (.lastore, 1) := by decide +kernel
theorem dX7_rowParts_25 : decode cX7_rowParts 25 = .ok (.iconst 0, 1) := by decide +kernel
theorem dX7_rowParts_26 : decode cX7_rowParts 26 = .ok (.istore 5, 2) := by decide +kernel
theorem dX7_rowParts_28 : decode cX7_rowParts 28 = .ok (.iload 5, 2) := by decide +kernel
theorem dX7_rowParts_30 : decode cX7_rowParts 30 = .ok (.iload_n 1, 1) := by decide +kernel
theorem dX7_rowParts_31 : decode cX7_rowParts 31 = .ok (.if_icmp .ge 23, 3) := by decide +kernel
theorem dX7_rowParts_34 : decode cX7_rowParts 34 = .ok (.aload 4, 2) := by decide +kernel
theorem dX7_rowParts_36 : decode cX7_rowParts 36 = .ok (.iconst 3, 1) := by decide +kernel
theorem dX7_rowParts_37 : decode cX7_rowParts 37 = .ok (.iload 5, 2) := by decide +kernel
theorem dX7_rowParts_39 : decode cX7_rowParts 39 = .ok (.iadd, 1) := by decide +kernel
theorem dX7_rowParts_40 : decode cX7_rowParts 40 = .ok (.aload_n 0, 1) := by decide +kernel
theorem dX7_rowParts_41 : decode cX7_rowParts 41 = .ok (.iload 5, 2) := by decide +kernel
theorem dX7_rowParts_43 : decode cX7_rowParts 43 = .ok (.invokevirtual 116, 3) := by decide +kernel
theorem dX7_rowParts_46 : decode cX7_rowParts 46 = .ok (.i2l, 1) := by decide +kernel
theorem dX7_rowParts_47 : decode cX7_rowParts 47 = .ok (.lastore, 1) := by decide +kernel
theorem dX7_rowParts_48 : decode cX7_rowParts 48 = .ok (.iinc 5 1, 3) := by decide +kernel
theorem dX7_rowParts_51 : decode cX7_rowParts 51 = .ok (.goto (-23), 3) := by decide +kernel
theorem dX7_rowParts_54 : decode cX7_rowParts 54 = .ok (.aload 4, 2) := by decide +kernel
theorem dX7_rowParts_56 : decode cX7_rowParts 56 = .ok (.areturn, 1) := by decide +kernel
theorem dX7_areKindsOnce_0 : decode cX7_areKindsOnce 0 = .ok (.iconst 0, 1) := by decide +kernel
theorem dX7_areKindsOnce_1 : decode cX7_areKindsOnce 1 = .ok (.istore_n 1, 1) := by decide +kernel
theorem dX7_areKindsOnce_2 : decode cX7_areKindsOnce 2 = .ok (.aload_n 0, 1) := by decide +kernel
theorem dX7_areKindsOnce_3 : decode cX7_areKindsOnce 3 = .ok (.astore_n 2, 1) := by decide +kernel
theorem dX7_areKindsOnce_4 : decode cX7_areKindsOnce 4 = .ok (.aload_n 2, 1) := by decide +kernel
theorem dX7_areKindsOnce_5 : decode cX7_areKindsOnce 5 = .ok (.arraylength, 1) := by decide +kernel
theorem dX7_areKindsOnce_6 : decode cX7_areKindsOnce 6 = .ok (.istore_n 3, 1) := by decide +kernel
theorem dX7_areKindsOnce_7 : decode cX7_areKindsOnce 7 = .ok (.iconst 0, 1) := by decide +kernel
theorem dX7_areKindsOnce_8 : decode cX7_areKindsOnce 8 = .ok (.istore 4, 2) := by decide +kernel
theorem dX7_areKindsOnce_10 : decode cX7_areKindsOnce 10 = .ok (.iload 4, 2) := by decide +kernel
theorem dX7_areKindsOnce_12 : decode cX7_areKindsOnce 12 = .ok (.iload_n 3, 1) := by decide +kernel
theorem dX7_areKindsOnce_13 : decode cX7_areKindsOnce 13 = .ok (.if_icmp .ge 54, 3) := by decide +kernel
theorem dX7_areKindsOnce_16 : decode cX7_areKindsOnce 16 = .ok (.aload_n 2, 1) := by decide +kernel
theorem dX7_areKindsOnce_17 : decode cX7_areKindsOnce 17 = .ok (.iload 4, 2) := by decide +kernel
theorem dX7_areKindsOnce_19 : decode cX7_areKindsOnce 19 = .ok (.iaload, 1) := by decide +kernel
theorem dX7_areKindsOnce_20 : decode cX7_areKindsOnce 20 = .ok (.istore 5, 2) := by decide +kernel
theorem dX7_areKindsOnce_22 : decode cX7_areKindsOnce 22 = .ok (.iload 5, 2) := by decide +kernel
theorem dX7_areKindsOnce_24 : decode cX7_areKindsOnce 24 = .ok (.iconst (-1), 1) := by decide +kernel
theorem dX7_areKindsOnce_25 : decode cX7_areKindsOnce 25 = .ok (.if_icmp .ne 6, 3) := by decide +kernel
theorem dX7_areKindsOnce_28 : decode cX7_areKindsOnce 28 = .ok (.goto 33, 3) := by decide +kernel
theorem dX7_areKindsOnce_31 : decode cX7_areKindsOnce 31 = .ok (.iload 5, 2) := by decide +kernel
theorem dX7_areKindsOnce_33 : decode cX7_areKindsOnce 33 = .ok (.ifCond .lt 19, 3) := by decide +kernel
theorem dX7_areKindsOnce_36 : decode cX7_areKindsOnce 36 = .ok (.iload 5, 2) := by decide +kernel
theorem dX7_areKindsOnce_38 : decode cX7_areKindsOnce 38 = .ok (.bipush 6, 2) := by decide +kernel
theorem dX7_areKindsOnce_40 : decode cX7_areKindsOnce 40 = .ok (.if_icmp .gt 12, 3) := by decide +kernel
theorem dX7_areKindsOnce_43 : decode cX7_areKindsOnce 43 = .ok (.iload_n 1, 1) := by decide +kernel
theorem dX7_areKindsOnce_44 : decode cX7_areKindsOnce 44 = .ok (.iload 5, 2) := by decide +kernel
theorem dX7_areKindsOnce_46 : decode cX7_areKindsOnce 46 = .ok (.ishr, 1) := by decide +kernel
theorem dX7_areKindsOnce_47 : decode cX7_areKindsOnce 47 = .ok (.iconst 1, 1) := by decide +kernel
theorem dX7_areKindsOnce_48 : decode cX7_areKindsOnce 48 = .ok (.iand, 1) := by decide +kernel
theorem dX7_areKindsOnce_49 : decode cX7_areKindsOnce 49 = .ok (.ifCond .eq 5, 3) := by decide +kernel
theorem dX7_areKindsOnce_52 : decode cX7_areKindsOnce 52 = .ok (.iconst 0, 1) := by decide +kernel
theorem dX7_areKindsOnce_53 : decode cX7_areKindsOnce 53 = .ok (.ireturn, 1) := by decide +kernel
theorem dX7_areKindsOnce_54 : decode cX7_areKindsOnce 54 = .ok (.iload_n 1, 1) := by decide +kernel
theorem dX7_areKindsOnce_55 : decode cX7_areKindsOnce 55 = .ok (.iconst 1, 1) := by decide +kernel
theorem dX7_areKindsOnce_56 : decode cX7_areKindsOnce 56 = .ok (.iload 5, 2) := by decide +kernel
theorem dX7_areKindsOnce_58 : decode cX7_areKindsOnce 58 = .ok (.ishl, 1) := by decide +kernel
theorem dX7_areKindsOnce_59 : decode cX7_areKindsOnce 59 = .ok (.ior, 1) := by decide +kernel
theorem dX7_areKindsOnce_60 : decode cX7_areKindsOnce 60 = .ok (.istore_n 1, 1) := by decide +kernel
theorem dX7_areKindsOnce_61 : decode cX7_areKindsOnce 61 = .ok (.iinc 4 1, 3) := by decide +kernel
theorem dX7_areKindsOnce_64 : decode cX7_areKindsOnce 64 = .ok (.goto (-54), 3) := by decide +kernel
theorem dX7_areKindsOnce_67 : decode cX7_areKindsOnce 67 = .ok (.iconst 1, 1) := by decide +kernel
theorem dX7_areKindsOnce_68 : decode cX7_areKindsOnce 68 = .ok (.ireturn, 1) := by decide +kernel
theorem dX7_findFamily_0 : decode cX7_findFamily 0 = .ok (.iload_n 1, 1) := by decide +kernel
theorem dX7_findFamily_1 : decode cX7_findFamily 1 = .ok (.ifCond .lt 20, 3) := by decide +kernel
theorem dX7_findFamily_4 : decode cX7_findFamily 4 = .ok (.iload_n 1, 1) := by decide +kernel
theorem dX7_findFamily_5 : decode cX7_findFamily 5 = .ok (.aload_n 0, 1) := by decide +kernel
theorem dX7_findFamily_6 : decode cX7_findFamily 6 = .ok (.getfield 37, 3) := by decide +kernel
theorem dX7_findFamily_9 : decode cX7_findFamily 9 = .ok (.if_icmp .ge 12, 3) := by decide +kernel
theorem dX7_findFamily_12 : decode cX7_findFamily 12 = .ok (.aload_n 0, 1) := by decide +kernel
theorem dX7_findFamily_13 : decode cX7_findFamily 13 = .ok (.getfield 33, 3) := by decide +kernel
theorem dX7_findFamily_16 : decode cX7_findFamily 16 = .ok (.iload_n 1, 1) := by decide +kernel
theorem dX7_findFamily_17 : decode cX7_findFamily 17 = .ok (.aaload, 1) := by decide +kernel
theorem dX7_findFamily_18 : decode cX7_findFamily 18 = .ok (.goto 4, 3) := by decide +kernel
theorem dX7_findFamily_21 : decode cX7_findFamily 21 = .ok (.aconst_null, 1) := by decide +kernel
theorem dX7_findFamily_22 : decode cX7_findFamily 22 = .ok (.areturn, 1) := by decide +kernel
theorem dX7_findConstant_0 : decode cX7_findConstant 0 = .ok (.iload_n 1, 1) := by decide +kernel
theorem dX7_findConstant_1 : decode cX7_findConstant 1 = .ok (.ifCond .lt 20, 3) := by decide +kernel
theorem dX7_findConstant_4 : decode cX7_findConstant 4 = .ok (.iload_n 1, 1) := by decide +kernel
theorem dX7_findConstant_5 : decode cX7_findConstant 5 = .ok (.aload_n 0, 1) := by decide +kernel
theorem dX7_findConstant_6 : decode cX7_findConstant 6 = .ok (.getfield 46, 3) := by decide +kernel
theorem dX7_findConstant_9 : decode cX7_findConstant 9 = .ok (.if_icmp .ge 12, 3) := by decide +kernel
theorem dX7_findConstant_12 : decode cX7_findConstant 12 = .ok (.aload_n 0, 1) := by decide +kernel
theorem dX7_findConstant_13 : decode cX7_findConstant 13 = .ok (.getfield 42, 3) := by decide +kernel
theorem dX7_findConstant_16 : decode cX7_findConstant 16 = .ok (.iload_n 1, 1) := by decide +kernel
theorem dX7_findConstant_17 : decode cX7_findConstant 17 = .ok (.aaload, 1) := by decide +kernel
theorem dX7_findConstant_18 : decode cX7_findConstant 18 = .ok (.goto 4, 3) := by decide +kernel
theorem dX7_findConstant_21 : decode cX7_findConstant 21 = .ok (.aconst_null, 1) := by decide +kernel
theorem dX7_findConstant_22 : decode cX7_findConstant 22 = .ok (.areturn, 1) := by decide +kernel
theorem dX7_findEnumeration_0 : decode cX7_findEnumeration 0 = .ok (.iload_n 1, 1) := by decide +kernel
theorem dX7_findEnumeration_1 : decode cX7_findEnumeration 1 = .ok (.ifCond .lt 17, 3) := by decide +kernel
theorem dX7_findEnumeration_4 : decode cX7_findEnumeration 4 = .ok (.iload_n 1, 1) := by decide +kernel
theorem dX7_findEnumeration_5 : decode cX7_findEnumeration 5 = .ok (.iconst 4, 1) := by decide +kernel
theorem dX7_findEnumeration_6 : decode cX7_findEnumeration 6 = .ok (.if_icmp .ge 12, 3) := by decide +kernel
theorem dX7_findEnumeration_9 : decode cX7_findEnumeration 9 = .ok (.aload_n 0, 1) := by decide +kernel
theorem dX7_findEnumeration_10 : decode cX7_findEnumeration 10 = .ok (.getfield 51, 3) := by decide +kernel
theorem dX7_findEnumeration_13 : decode cX7_findEnumeration 13 = .ok (.iload_n 1, 1) := by decide +kernel
theorem dX7_findEnumeration_14 : decode cX7_findEnumeration 14 = .ok (.aaload, 1) := by decide +kernel
theorem dX7_findEnumeration_15 : decode cX7_findEnumeration 15 = .ok (.goto 4, 3) := by decide +kernel
theorem dX7_findEnumeration_18 : decode cX7_findEnumeration 18 = .ok (.aconst_null, 1) := by decide +kernel
theorem dX7_findEnumeration_19 : decode cX7_findEnumeration 19 = .ok (.areturn, 1) := by decide +kernel
theorem dX7_homeOf_0 : decode cX7_homeOf 0 = .ok (.aload_n 0, 1) := by decide +kernel
theorem dX7_homeOf_1 : decode cX7_homeOf 1 = .ok (.iload_n 1, 1) := by decide +kernel
theorem dX7_homeOf_2 : decode cX7_homeOf 2 = .ok (.invokevirtual 238, 3) := by decide +kernel
theorem dX7_homeOf_5 : decode cX7_homeOf 5 = .ok (.astore_n 2, 1) := by decide +kernel
theorem dX7_homeOf_6 : decode cX7_homeOf 6 = .ok (.aload_n 2, 1) := by decide +kernel
theorem dX7_homeOf_7 : decode cX7_homeOf 7 = .ok (.ifnonnull 7, 3) := by decide +kernel
theorem dX7_homeOf_10 : decode cX7_homeOf 10 = .ok (.aconst_null, 1) := by decide +kernel
theorem dX7_homeOf_11 : decode cX7_homeOf 11 = .ok (.goto 11, 3) := by decide +kernel
theorem dX7_homeOf_14 : decode cX7_homeOf 14 = .ok (.aload_n 0, 1) := by decide +kernel
theorem dX7_homeOf_15 : decode cX7_homeOf 15 = .ok (.aload_n 2, 1) := by decide +kernel
theorem dX7_homeOf_16 : decode cX7_homeOf 16 = .ok (.getfield 242, 3) := by decide +kernel
theorem dX7_homeOf_19 : decode cX7_homeOf 19 = .ok (.invokevirtual 204, 3) := by decide +kernel
theorem dX7_homeOf_22 : decode cX7_homeOf 22 = .ok (.areturn, 1) := by decide +kernel
theorem dX7_memberNamed_0 : decode cX7_memberNamed 0 = .ok (.iconst 0, 1) := by decide +kernel
theorem dX7_memberNamed_1 : decode cX7_memberNamed 1 = .ok (.istore_n 3, 1) := by decide +kernel
theorem dX7_memberNamed_2 : decode cX7_memberNamed 2 = .ok (.iload_n 3, 1) := by decide +kernel
theorem dX7_memberNamed_3 : decode cX7_memberNamed 3 = .ok (.aload_n 1, 1) := by decide +kernel
theorem dX7_memberNamed_4 : decode cX7_memberNamed 4 = .ok (.getfield 227, 3) := by decide +kernel
theorem dX7_memberNamed_7 : decode cX7_memberNamed 7 = .ok (.if_icmp .ge 42, 3) := by decide +kernel
theorem dX7_memberNamed_10 : decode cX7_memberNamed 10 = .ok (.aload_n 0, 1) := by decide +kernel
theorem dX7_memberNamed_11 : decode cX7_memberNamed 11 = .ok (.aload_n 1, 1) := by decide +kernel
theorem dX7_memberNamed_12 : decode cX7_memberNamed 12 = .ok (.getfield 248, 3) := by decide +kernel
theorem dX7_memberNamed_15 : decode cX7_memberNamed 15 = .ok (.iload_n 3, 1) := by decide +kernel
theorem dX7_memberNamed_16 : decode cX7_memberNamed 16 = .ok (.iaload, 1) := by decide +kernel
theorem dX7_memberNamed_17 : decode cX7_memberNamed 17 = .ok (.invokevirtual 238, 3) := by decide +kernel
theorem dX7_memberNamed_20 : decode cX7_memberNamed 20 = .ok (.astore 4, 2) := by decide +kernel
theorem dX7_memberNamed_22 : decode cX7_memberNamed 22 = .ok (.aload 4, 2) := by decide +kernel
theorem dX7_memberNamed_24 : decode cX7_memberNamed 24 = .ok (.ifnull 19, 3) := by decide +kernel
theorem dX7_memberNamed_27 : decode cX7_memberNamed 27 = .ok (.aload 4, 2) := by decide +kernel
theorem dX7_memberNamed_29 : decode cX7_memberNamed 29 = .ok (.getfield 245, 3) := by decide +kernel
theorem dX7_memberNamed_32 : decode cX7_memberNamed 32 = .ok (.iload_n 2, 1) := by decide +kernel
theorem dX7_memberNamed_33 : decode cX7_memberNamed 33 = .ok (.if_icmp .ne 10, 3) := by decide +kernel
theorem dX7_memberNamed_36 : decode cX7_memberNamed 36 = .ok (.aload_n 1, 1) := by decide +kernel
theorem dX7_memberNamed_37 : decode cX7_memberNamed 37 = .ok (.getfield 248, 3) := by decide +kernel
theorem dX7_memberNamed_40 : decode cX7_memberNamed 40 = .ok (.iload_n 3, 1) := by decide +kernel
theorem dX7_memberNamed_41 : decode cX7_memberNamed 41 = .ok (.iaload, 1) := by decide +kernel
theorem dX7_memberNamed_42 : decode cX7_memberNamed 42 = .ok (.ireturn, 1) := by decide +kernel
theorem dX7_memberNamed_43 : decode cX7_memberNamed 43 = .ok (.iinc 3 1, 3) := by decide +kernel
theorem dX7_memberNamed_46 : decode cX7_memberNamed 46 = .ok (.goto (-44), 3) := by decide +kernel
theorem dX7_memberNamed_49 : decode cX7_memberNamed 49 = .ok (.iconst (-1), 1) := by decide +kernel
theorem dX7_memberNamed_50 : decode cX7_memberNamed 50 = .ok (.ireturn, 1) := by decide +kernel
theorem dX7_membersOfAll_0 : decode cX7_membersOfAll 0 = .ok (.iconst 0, 1) := by decide +kernel
theorem dX7_membersOfAll_1 : decode cX7_membersOfAll 1 = .ok (.istore_n 1, 1) := by decide +kernel
theorem dX7_membersOfAll_2 : decode cX7_membersOfAll 2 = .ok (.aload_n 0, 1) := by decide +kernel
theorem dX7_membersOfAll_3 : decode cX7_membersOfAll 3 = .ok (.getfield 51, 3) := by decide +kernel
theorem dX7_membersOfAll_6 : decode cX7_membersOfAll 6 = .ok (.astore_n 2, 1) := by decide +kernel
theorem dX7_membersOfAll_7 : decode cX7_membersOfAll 7 = .ok (.aload_n 2, 1) := by decide +kernel
theorem dX7_membersOfAll_8 : decode cX7_membersOfAll 8 = .ok (.arraylength, 1) := by decide +kernel
theorem dX7_membersOfAll_9 : decode cX7_membersOfAll 9 = .ok (.istore_n 3, 1) := by decide +kernel
theorem dX7_membersOfAll_10 : decode cX7_membersOfAll 10 = .ok (.iconst 0, 1) := by decide +kernel
theorem dX7_membersOfAll_11 : decode cX7_membersOfAll 11 = .ok (.istore 4, 2) := by decide +kernel
theorem dX7_membersOfAll_13 : decode cX7_membersOfAll 13 = .ok (.iload 4, 2) := by decide +kernel
theorem dX7_membersOfAll_15 : decode cX7_membersOfAll 15 = .ok (.iload_n 3, 1) := by decide +kernel
theorem dX7_membersOfAll_16 : decode cX7_membersOfAll 16 = .ok (.if_icmp .ge 23, 3) := by decide +kernel
theorem dX7_membersOfAll_19 : decode cX7_membersOfAll 19 = .ok (.aload_n 2, 1) := by decide +kernel
theorem dX7_membersOfAll_20 : decode cX7_membersOfAll 20 = .ok (.iload 4, 2) := by decide +kernel
theorem dX7_membersOfAll_22 : decode cX7_membersOfAll 22 = .ok (.aaload, 1) := by decide +kernel
theorem dX7_membersOfAll_23 : decode cX7_membersOfAll 23 = .ok (.astore 5, 2) := by decide +kernel
theorem dX7_membersOfAll_25 : decode cX7_membersOfAll 25 = .ok (.iload_n 1, 1) := by decide +kernel
theorem dX7_membersOfAll_26 : decode cX7_membersOfAll 26 = .ok (.aload 5, 2) := by decide +kernel
theorem dX7_membersOfAll_28 : decode cX7_membersOfAll 28 = .ok (.getfield 227, 3) := by decide +kernel
theorem dX7_membersOfAll_31 : decode cX7_membersOfAll 31 = .ok (.iadd, 1) := by decide +kernel
theorem dX7_membersOfAll_32 : decode cX7_membersOfAll 32 = .ok (.istore_n 1, 1) := by decide +kernel
theorem dX7_membersOfAll_33 : decode cX7_membersOfAll 33 = .ok (.iinc 4 1, 3) := by decide +kernel
theorem dX7_membersOfAll_36 : decode cX7_membersOfAll 36 = .ok (.goto (-23), 3) := by decide +kernel
theorem dX7_membersOfAll_39 : decode cX7_membersOfAll 39 = .ok (.iload_n 1, 1) := by decide +kernel
theorem dX7_membersOfAll_40 : decode cX7_membersOfAll 40 = .ok (.ireturn, 1) := by decide +kernel
theorem dX7_drawBelow_0 : decode cX7_drawBelow 0 = .ok (.aload_n 0, 1) := by decide +kernel
theorem dX7_drawBelow_1 : decode cX7_drawBelow 1 = .ok (.aload_n 0, 1) := by decide +kernel
theorem dX7_drawBelow_2 : decode cX7_drawBelow 2 = .ok (.getfield 62, 3) := by decide +kernel
theorem dX7_drawBelow_5 : decode cX7_drawBelow 5 = .ok (.ldc2_w 275, 3) := by decide +kernel
theorem dX7_drawBelow_8 : decode cX7_drawBelow 8 = .ok (.lmul, 1) := by decide +kernel
theorem dX7_drawBelow_9 : decode cX7_drawBelow 9 = .ok (.ldc2_w 236, 3) := by decide +kernel
theorem dX7_drawBelow_12 : decode cX7_drawBelow 12 = .ok (.lrem, 1) := by decide +kernel
theorem dX7_drawBelow_13 : decode cX7_drawBelow 13 = .ok (.putfield 62, 3) := by decide +kernel
theorem dX7_drawBelow_16 : decode cX7_drawBelow 16 = .ok (.iload_n 1, 1) := by decide +kernel
theorem dX7_drawBelow_17 : decode cX7_drawBelow 17 = .ok (.ifCond .gt 7, 3) := by decide +kernel
theorem dX7_drawBelow_20 : decode cX7_drawBelow 20 = .ok (.iconst 0, 1) := by decide +kernel
theorem dX7_drawBelow_21 : decode cX7_drawBelow 21 = .ok (.goto 11, 3) := by decide +kernel
theorem dX7_drawBelow_24 : decode cX7_drawBelow 24 = .ok (.aload_n 0, 1) := by decide +kernel
theorem dX7_drawBelow_25 : decode cX7_drawBelow 25 = .ok (.getfield 62, 3) := by decide +kernel
theorem dX7_drawBelow_28 : decode cX7_drawBelow 28 = .ok (.iload_n 1, 1) := by decide +kernel
theorem dX7_drawBelow_29 : decode cX7_drawBelow 29 = .ok (.i2l, 1) := by decide +kernel
theorem dX7_drawBelow_30 : decode cX7_drawBelow 30 = .ok (.lrem, 1) := by decide +kernel
theorem dX7_drawBelow_31 : decode cX7_drawBelow 31 = .ok (.l2i, 1) := by decide +kernel
theorem dX7_drawBelow_32 : decode cX7_drawBelow 32 = .ok (.ireturn, 1) := by decide +kernel
theorem dX7_keyOf_0 : decode cX7_keyOf 0 = .ok (.aload_n 0, 1) := by decide +kernel
theorem dX7_keyOf_1 : decode cX7_keyOf 1 = .ok (.getfield 242, 3) := by decide +kernel
theorem dX7_keyOf_4 : decode cX7_keyOf 4 = .ok (.sipush 10000, 3) := by decide +kernel
theorem dX7_keyOf_7 : decode cX7_keyOf 7 = .ok (.imul, 1) := by decide +kernel
theorem dX7_keyOf_8 : decode cX7_keyOf 8 = .ok (.aload_n 0, 1) := by decide +kernel
theorem dX7_keyOf_9 : decode cX7_keyOf 9 = .ok (.getfield 245, 3) := by decide +kernel
theorem dX7_keyOf_12 : decode cX7_keyOf 12 = .ok (.iadd, 1) := by decide +kernel
theorem dX7_keyOf_13 : decode cX7_keyOf 13 = .ok (.ireturn, 1) := by decide +kernel
theorem dX8_init_0 : decode cX8_init 0 = .ok (.aload_n 0, 1) := by decide +kernel
theorem dX8_init_1 : decode cX8_init 1 = .ok (.invokespecial 1, 3) := by decide +kernel
theorem dX8_init_4 : decode cX8_init 4 = .ok (.aload_n 0, 1) := by decide +kernel
theorem dX8_init_5 : decode cX8_init 5 = .ok (.iconst (-1), 1) := by decide +kernel
theorem dX8_init_6 : decode cX8_init 6 = .ok (.putfield 9, 3) := by decide +kernel
theorem dX8_init_9 : decode cX8_init 9 = .ok (.aload_n 0, 1) := by decide +kernel
theorem dX8_init_10 : decode cX8_init 10 = .ok (.bipush 8, 2) := by decide +kernel
theorem dX8_init_12 : decode cX8_init 12 = .ok (.newarray .int, 2) := by decide +kernel
theorem dX8_init_14 : decode cX8_init 14 = .ok (.putfield 13, 3) := by decide +kernel
theorem dX8_init_17 : decode cX8_init 17 = .ok (.aload_n 0, 1) := by decide +kernel
theorem dX8_init_18 : decode cX8_init 18 = .ok (.bipush 12, 2) := by decide +kernel
theorem dX8_init_20 : decode cX8_init 20 = .ok (.newarray .int, 2) := by decide +kernel
theorem dX8_init_22 : decode cX8_init 22 = .ok (.putfield 17, 3) := by decide +kernel
theorem dX8_init_25 : decode cX8_init 25 = .ok (.aload_n 0, 1) := by decide +kernel
theorem dX8_init_26 : decode cX8_init 26 = .ok (.bipush 60, 2) := by decide +kernel
theorem dX8_init_28 : decode cX8_init 28 = .ok (.newarray .int, 2) := by decide +kernel
theorem dX8_init_30 : decode cX8_init 30 = .ok (.putfield 20, 3) := by decide +kernel
theorem dX8_init_33 : decode cX8_init 33 = .ok (.aload_n 0, 1) := by decide +kernel
theorem dX8_init_34 : decode cX8_init 34 = .ok (.bipush 60, 2) := by decide +kernel
theorem dX8_init_36 : decode cX8_init 36 = .ok (.newarray .int, 2) := by decide +kernel
theorem dX8_init_38 : decode cX8_init 38 = .ok (.putfield 23, 3) := by decide +kernel
theorem dX8_init_41 : decode cX8_init 41 = .ok (.aload_n 0, 1) := by decide +kernel
theorem dX8_init_42 : decode cX8_init 42 = .ok (.sipush 960, 3) := by decide +kernel
theorem dX8_init_45 : decode cX8_init 45 = .ok (.newarray .long, 2) := by decide +kernel
theorem dX8_init_47 : decode cX8_init 47 = .ok (.putfield 26, 3) := by decide +kernel
theorem dX8_init_50 : decode cX8_init 50 = .ok (.aload_n 0, 1) := by decide +kernel
theorem dX8_init_51 : decode cX8_init 51 = .ok (.bipush 60, 2) := by decide +kernel
theorem dX8_init_53 : decode cX8_init 53 = .ok (.newarray .boolean, 2) := by decide +kernel
theorem dX8_init_55 : decode cX8_init 55 = .ok (.putfield 30, 3) := by decide +kernel
theorem dX8_init_58 : decode cX8_init 58 = .ok (.aload_n 0, 1) := by decide +kernel
theorem dX8_init_59 : decode cX8_init 59 = .ok (.bipush 60, 2) := by decide +kernel
theorem dX8_init_61 : decode cX8_init 61 = .ok (.newarray .int, 2) := by decide +kernel
theorem dX8_init_63 : decode cX8_init 63 = .ok (.putfield 34, 3) := by decide +kernel
theorem dX8_init_66 : decode cX8_init 66 = .ok (.aload_n 0, 1) := by decide +kernel
theorem dX8_init_67 : decode cX8_init 67 = .ok (.bipush 60, 2) := by decide +kernel
theorem dX8_init_69 : decode cX8_init 69 = .ok (.newarray .int, 2) := by decide +kernel
theorem dX8_init_71 : decode cX8_init 71 = .ok (.putfield 37, 3) := by decide +kernel
theorem dX8_init_74 : decode cX8_init 74 = .ok (.aload_n 0, 1) := by decide +kernel
theorem dX8_init_75 : decode cX8_init 75 = .ok (.bipush 60, 2) := by decide +kernel
theorem dX8_init_77 : decode cX8_init 77 = .ok (.newarray .long, 2) := by decide +kernel
theorem dX8_init_79 : decode cX8_init 79 = .ok (.putfield 40, 3) := by decide +kernel
theorem dX8_init_82 : decode cX8_init 82 = .ok (.aload_n 0, 1) := by decide +kernel
theorem dX8_init_83 : decode cX8_init 83 = .ok (.bipush 6, 2) := by decide +kernel
theorem dX8_init_85 : decode cX8_init 85 = .ok (.newarray .int, 2) := by decide +kernel
theorem dX8_init_87 : decode cX8_init 87 = .ok (.putfield 43, 3) := by decide +kernel
theorem dX8_init_90 : decode cX8_init 90 = .ok (.aload_n 0, 1) := by decide +kernel
theorem dX8_init_91 : decode cX8_init 91 = .ok (.bipush 24, 2) := by decide +kernel
theorem dX8_init_93 : decode cX8_init 93 = .ok (.newarray .int, 2) := by decide +kernel
theorem dX8_init_95 : decode cX8_init 95 = .ok (.putfield 46, 3) := by decide +kernel
theorem dX8_init_98 : decode cX8_init 98 = .ok (.aload_n 0, 1) := by decide +kernel
theorem dX8_init_99 : decode cX8_init 99 = .ok (.bipush 60, 2) := by decide +kernel
theorem dX8_init_101 : decode cX8_init 101 = .ok (.newarray .int, 2) := by decide +kernel
theorem dX8_init_103 : decode cX8_init 103 = .ok (.putfield 49, 3) := by decide +kernel
theorem dX8_init_106 : decode cX8_init 106 = .ok (.aload_n 0, 1) := by decide +kernel
theorem dX8_init_107 : decode cX8_init 107 = .ok (.bipush 60, 2) := by decide +kernel
theorem dX8_init_109 : decode cX8_init 109 = .ok (.newarray .int, 2) := by decide +kernel
theorem dX8_init_111 : decode cX8_init 111 = .ok (.putfield 52, 3) := by decide +kernel
theorem dX8_init_114 : decode cX8_init 114 = .ok (.aload_n 0, 1) := by decide +kernel
theorem dX8_init_115 : decode cX8_init 115 = .ok (.bipush 60, 2) := by decide +kernel
theorem dX8_init_117 : decode cX8_init 117 = .ok (.newarray .int, 2) := by decide +kernel
theorem dX8_init_119 : decode cX8_init 119 = .ok (.putfield 55, 3) := by decide +kernel
theorem dX8_init_122 : decode cX8_init 122 = .ok (.aload_n 0, 1) := by decide +kernel
theorem dX8_init_123 : decode cX8_init 123 = .ok (.iconst 4, 1) := by decide +kernel
theorem dX8_init_124 : decode cX8_init 124 = .ok (.newarray .int, 2) := by decide +kernel
theorem dX8_init_126 : decode cX8_init 126 = .ok (.putfield 58, 3) := by decide +kernel
theorem dX8_init_129 : decode cX8_init 129 = .ok (.aload_n 0, 1) := by decide +kernel
theorem dX8_init_130 : decode cX8_init 130 = .ok (.lconst 1, 1) := by decide +kernel
theorem dX8_init_131 : decode cX8_init 131 = .ok (.putfield 61, 3) := by decide +kernel
theorem dX8_init_134 : decode cX8_init 134 = .ok (.aload_n 0, 1) := by decide +kernel
theorem dX8_init_135 : decode cX8_init 135 = .ok (.bipush 40, 2) := by decide +kernel
theorem dX8_init_137 : decode cX8_init 137 = .ok (.newarray .int, 2) := by decide +kernel
theorem dX8_init_139 : decode cX8_init 139 = .ok (.putfield 65, 3) := by decide +kernel
theorem dX8_init_142 : decode cX8_init 142 = .ok (.aload_n 0, 1) := by decide +kernel
theorem dX8_init_143 : decode cX8_init 143 = .ok (.bipush 40, 2) := by decide +kernel
theorem dX8_init_145 : decode cX8_init 145 = .ok (.newarray .int, 2) := by decide +kernel
theorem dX8_init_147 : decode cX8_init 147 = .ok (.putfield 68, 3) := by decide +kernel
theorem dX8_init_150 : decode cX8_init 150 = .ok (.aload_n 0, 1) := by decide +kernel
theorem dX8_init_151 : decode cX8_init 151 = .ok (.bipush 40, 2) := by decide +kernel
theorem dX8_init_153 : decode cX8_init 153 = .ok (.newarray .int, 2) := by decide +kernel
theorem dX8_init_155 : decode cX8_init 155 = .ok (.putfield 71, 3) := by decide +kernel
theorem dX8_init_158 : decode cX8_init 158 = .ok (.return_, 1) := by decide +kernel
theorem dX8_begin_0 : decode cX8_begin 0 = .ok (.aload_n 0, 1) := by decide +kernel
theorem dX8_begin_1 : decode cX8_begin 1 = .ok (.iconst 0, 1) := by decide +kernel
theorem dX8_begin_2 : decode cX8_begin 2 = .ok (.putfield 74, 3) := by decide +kernel
theorem dX8_begin_5 : decode cX8_begin 5 = .ok (.aload_n 0, 1) := by decide +kernel
theorem dX8_begin_6 : decode cX8_begin 6 = .ok (.iconst (-1), 1) := by decide +kernel
theorem dX8_begin_7 : decode cX8_begin 7 = .ok (.putfield 9, 3) := by decide +kernel
theorem dX8_begin_10 : decode cX8_begin 10 = .ok (.aload_n 0, 1) := by decide +kernel
theorem dX8_begin_11 : decode cX8_begin 11 = .ok (.iconst 0, 1) := by decide +kernel
theorem dX8_begin_12 : decode cX8_begin 12 = .ok (.putfield 77, 3) := by decide +kernel
theorem dX8_begin_15 : decode cX8_begin 15 = .ok (.return_, 1) := by decide +kernel
theorem dX8_fails_0 : decode cX8_fails 0 = .ok (.aload_n 0, 1) := by decide +kernel
theorem dX8_fails_1 : decode cX8_fails 1 = .ok (.iload_n 1, 1) := by decide +kernel
theorem dX8_fails_2 : decode cX8_fails 2 = .ok (.putfield 74, 3) := by decide +kernel
theorem dX8_fails_5 : decode cX8_fails 5 = .ok (.aload_n 0, 1) := by decide +kernel
theorem dX8_fails_6 : decode cX8_fails 6 = .ok (.iload_n 2, 1) := by decide +kernel
theorem dX8_fails_7 : decode cX8_fails 7 = .ok (.putfield 9, 3) := by decide +kernel
theorem dX8_fails_10 : decode cX8_fails 10 = .ok (.aload_n 0, 1) := by decide +kernel
theorem dX8_fails_11 : decode cX8_fails 11 = .ok (.iload_n 3, 1) := by decide +kernel
theorem dX8_fails_12 : decode cX8_fails 12 = .ok (.putfield 77, 3) := by decide +kernel
theorem dX8_fails_15 : decode cX8_fails 15 = .ok (.aload_n 0, 1) := by decide +kernel
theorem dX8_fails_16 : decode cX8_fails 16 = .ok (.getfield 13, 3) := by decide +kernel
theorem dX8_fails_19 : decode cX8_fails 19 = .ok (.iload_n 1, 1) := by decide +kernel
theorem dX8_fails_20 : decode cX8_fails 20 = .ok (.dup2, 1) := by decide +kernel
theorem dX8_fails_21 : decode cX8_fails 21 = .ok (.iaload, 1) := by decide +kernel
theorem dX8_fails_22 : decode cX8_fails 22 = .ok (.iconst 1, 1) := by decide +kernel
theorem dX8_fails_23 : decode cX8_fails 23 = .ok (.iadd, 1) := by decide +kernel
theorem dX8_fails_24 : decode cX8_fails 24 = .ok (.iastore, 1) := by decide +kernel
theorem dX8_fails_25 : decode cX8_fails 25 = .ok (.bipush (-4), 2) := by decide +kernel
theorem dX8_fails_27 : decode cX8_fails 27 = .ok (.ireturn, 1) := by decide +kernel
theorem dX8_cause_0 : decode cX8_cause 0 = .ok (.iload_n 1, 1) := by decide +kernel
theorem dX8_cause_1 : decode cX8_cause 1 = .ok (.ifCond .ne 10, 3) := by decide +kernel
theorem dX8_cause_4 : decode cX8_cause 4 = .ok (.aload_n 0, 1) := by decide +kernel
theorem dX8_cause_5 : decode cX8_cause 5 = .ok (.getfield 74, 3) := by decide +kernel
theorem dX8_cause_8 : decode cX8_cause 8 = .ok (.goto 29, 3) := by decide +kernel
theorem dX8_cause_11 : decode cX8_cause 11 = .ok (.iload_n 1, 1) := by decide +kernel
theorem dX8_cause_12 : decode cX8_cause 12 = .ok (.iconst 1, 1) := by decide +kernel
theorem dX8_cause_13 : decode cX8_cause 13 = .ok (.if_icmp .ne 10, 3) := by decide +kernel
theorem dX8_cause_16 : decode cX8_cause 16 = .ok (.aload_n 0, 1) := by decide +kernel
theorem dX8_cause_17 : decode cX8_cause 17 = .ok (.getfield 9, 3) := by decide +kernel
theorem dX8_cause_20 : decode cX8_cause 20 = .ok (.goto 17, 3) := by decide +kernel
theorem dX8_cause_23 : decode cX8_cause 23 = .ok (.iload_n 1, 1) := by decide +kernel
theorem dX8_cause_24 : decode cX8_cause 24 = .ok (.iconst 2, 1) := by decide +kernel
theorem dX8_cause_25 : decode cX8_cause 25 = .ok (.if_icmp .ne 10, 3) := by decide +kernel
theorem dX8_cause_28 : decode cX8_cause 28 = .ok (.aload_n 0, 1) := by decide +kernel
theorem dX8_cause_29 : decode cX8_cause 29 = .ok (.getfield 77, 3) := by decide +kernel
theorem dX8_cause_32 : decode cX8_cause 32 = .ok (.goto 5, 3) := by decide +kernel
theorem dX8_cause_35 : decode cX8_cause 35 = .ok (.bipush (-2), 2) := by decide +kernel
theorem dX8_cause_37 : decode cX8_cause 37 = .ok (.ireturn, 1) := by decide +kernel
theorem dX8_lay_0 : decode cX8_lay 0 = .ok (.aload_n 0, 1) := by decide +kernel
theorem dX8_lay_1 : decode cX8_lay 1 = .ok (.getfield 80, 3) := by decide +kernel
theorem dX8_lay_4 : decode cX8_lay 4 = .ok (.bipush 12, 2) := by decide +kernel
theorem dX8_lay_6 : decode cX8_lay 6 = .ok (.if_icmp .ne 6, 3) := by decide +kernel
theorem dX8_lay_9 : decode cX8_lay 9 = .ok (.bipush (-3), 2) := by decide +kernel
theorem dX8_lay_11 : decode cX8_lay 11 = .ok (.ireturn, 1) := by decide +kernel
theorem dX8_lay_12 : decode cX8_lay 12 = .ok (.aload_n 0, 1) := by decide +kernel
theorem dX8_lay_13 : decode cX8_lay 13 = .ok (.getfield 17, 3) := by decide +kernel
theorem dX8_lay_16 : decode cX8_lay 16 = .ok (.aload_n 0, 1) := by decide +kernel
theorem dX8_lay_17 : decode cX8_lay 17 = .ok (.getfield 80, 3) := by decide +kernel
theorem dX8_lay_20 : decode cX8_lay 20 = .ok (.iload_n 1, 1) := by decide +kernel
theorem dX8_lay_21 : decode cX8_lay 21 = .ok (.iastore, 1) := by decide +kernel
theorem dX8_lay_22 : decode cX8_lay 22 = .ok (.aload_n 0, 1) := by decide +kernel
theorem dX8_lay_23 : decode cX8_lay 23 = .ok (.dup, 1) := by decide +kernel
theorem dX8_lay_24 : decode cX8_lay 24 = .ok (.getfield 80, 3) := by decide +kernel
theorem dX8_lay_27 : decode cX8_lay 27 = .ok (.iconst 1, 1) := by decide +kernel
theorem dX8_lay_28 : decode cX8_lay 28 = .ok (.iadd, 1) := by decide +kernel
theorem dX8_lay_29 : decode cX8_lay 29 = .ok (.putfield 80, 3) := by decide +kernel
theorem dX8_lay_32 : decode cX8_lay 32 = .ok (.aload_n 0, 1) := by decide +kernel
theorem dX8_lay_33 : decode cX8_lay 33 = .ok (.getfield 80, 3) := by decide +kernel
theorem dX8_lay_36 : decode cX8_lay 36 = .ok (.ireturn, 1) := by decide +kernel
theorem dX8_wipe_0 : decode cX8_wipe 0 = .ok (.aload_n 0, 1) := by decide +kernel
theorem dX8_wipe_1 : decode cX8_wipe 1 = .ok (.getfield 80, 3) := by decide +kernel
theorem dX8_wipe_4 : decode cX8_wipe 4 = .ok (.istore_n 1, 1) := by decide +kernel
theorem dX8_wipe_5 : decode cX8_wipe 5 = .ok (.aload_n 0, 1) := by decide +kernel
theorem dX8_wipe_6 : decode cX8_wipe 6 = .ok (.iconst 0, 1) := by decide +kernel
theorem dX8_wipe_7 : decode cX8_wipe 7 = .ok (.putfield 80, 3) := by decide +kernel
theorem dX8_wipe_10 : decode cX8_wipe 10 = .ok (.iload_n 1, 1) := by decide +kernel
theorem dX8_wipe_11 : decode cX8_wipe 11 = .ok (.ireturn, 1) := by decide +kernel
theorem dX8_isFigure_0 : decode cX8_isFigure 0 = .ok (.iload_n 1, 1) := by decide +kernel
theorem dX8_isFigure_1 : decode cX8_isFigure 1 = .ok (.ifCond .lt 15, 3) := by decide +kernel
theorem dX8_isFigure_4 : decode cX8_isFigure 4 = .ok (.iload_n 1, 1) := by decide +kernel
theorem dX8_isFigure_5 : decode cX8_isFigure 5 = .ok (.aload_n 0, 1) := by decide +kernel
theorem dX8_isFigure_6 : decode cX8_isFigure 6 = .ok (.getfield 83, 3) := by decide +kernel
theorem dX8_isFigure_9 : decode cX8_isFigure 9 = .ok (.if_icmp .ge 7, 3) := by decide +kernel
theorem dX8_isFigure_12 : decode cX8_isFigure 12 = .ok (.iconst 1, 1) := by decide +kernel
theorem dX8_isFigure_13 : decode cX8_isFigure 13 = .ok (.goto 4, 3) := by decide +kernel
theorem dX8_isFigure_16 : decode cX8_isFigure 16 = .ok (.iconst 0, 1) := by decide +kernel
theorem dX8_isFigure_17 : decode cX8_isFigure 17 = .ok (.ireturn, 1) := by decide +kernel
theorem dX8_at_0 : decode cX8_at 0 = .ok (.iload_n 2, 1) := by decide +kernel
theorem dX8_at_1 : decode cX8_at 1 = .ok (.ifCond .lt 27, 3) := by decide +kernel
theorem dX8_at_4 : decode cX8_at 4 = .ok (.iload_n 2, 1) := by decide +kernel
theorem dX8_at_5 : decode cX8_at 5 = .ok (.aload_n 0, 1) := by decide +kernel
theorem dX8_at_6 : decode cX8_at 6 = .ok (.getfield 23, 3) := by decide +kernel
theorem dX8_at_9 : decode cX8_at 9 = .ok (.iload_n 1, 1) := by decide +kernel
theorem dX8_at_10 : decode cX8_at 10 = .ok (.iaload, 1) := by decide +kernel
theorem dX8_at_11 : decode cX8_at 11 = .ok (.if_icmp .ge 17, 3) := by decide +kernel
theorem dX8_at_14 : decode cX8_at 14 = .ok (.aload_n 0, 1) := by decide +kernel
theorem dX8_at_15 : decode cX8_at 15 = .ok (.getfield 26, 3) := by decide +kernel
theorem dX8_at_18 : decode cX8_at 18 = .ok (.bipush 16, 2) := by decide +kernel
theorem dX8_at_20 : decode cX8_at 20 = .ok (.iload_n 1, 1) := by decide +kernel
theorem dX8_at_21 : decode cX8_at 21 = .ok (.imul, 1) := by decide +kernel
theorem dX8_at_22 : decode cX8_at 22 = .ok (.iload_n 2, 1) := by decide +kernel
theorem dX8_at_23 : decode cX8_at 23 = .ok (.iadd, 1) := by decide +kernel
theorem dX8_at_24 : decode cX8_at 24 = .ok (.laload, 1) := by decide +kernel
theorem dX8_at_25 : decode cX8_at 25 = .ok (.goto 4, 3) := by decide +kernel
theorem dX8_at_28 : decode cX8_at 28 = .ok (.lload_n 3, 1) := by decide +kernel
theorem dX8_at_29 : decode cX8_at 29 = .ok (.lreturn, 1) := by decide +kernel
theorem dX8_cellOf_0 : decode cX8_cellOf 0 = .ok (.aload_n 0, 1) := by decide +kernel
theorem dX8_cellOf_1 : decode cX8_cellOf 1 = .ok (.getfield 26, 3) := by decide +kernel
theorem dX8_cellOf_4 : decode cX8_cellOf 4 = .ok (.bipush 16, 2) := by decide +kernel
theorem dX8_cellOf_6 : decode cX8_cellOf 6 = .ok (.iload_n 1, 1) := by decide +kernel
theorem dX8_cellOf_7 : decode cX8_cellOf 7 = .ok (.imul, 1) := by decide +kernel
theorem dX8_cellOf_8 : decode cX8_cellOf 8 = .ok (.iload_n 2, 1) := by decide +kernel
theorem dX8_cellOf_9 : decode cX8_cellOf 9 = .ok (.iadd, 1) := by decide +kernel
theorem dX8_cellOf_10 : decode cX8_cellOf 10 = .ok (.laload, 1) := by decide +kernel
theorem dX8_cellOf_11 : decode cX8_cellOf 11 = .ok (.lreturn, 1) := by decide +kernel
theorem dX8_start_0 : decode cX8_start 0 = .ok (.aload_n 0, 1) := by decide +kernel
theorem dX8_start_1 : decode cX8_start 1 = .ok (.getfield 20, 3) := by decide +kernel
theorem dX8_start_4 : decode cX8_start 4 = .ok (.aload_n 0, 1) := by decide +kernel
theorem dX8_start_5 : decode cX8_start 5 = .ok (.getfield 83, 3) := by decide +kernel
theorem dX8_start_8 : decode cX8_start 8 = .ok (.iload_n 1, 1) := by decide +kernel
theorem dX8_start_9 : decode cX8_start 9 = .ok (.iastore, 1) := by decide +kernel
theorem dX8_start_10 : decode cX8_start 10 = .ok (.aload_n 0, 1) := by decide +kernel
theorem dX8_start_11 : decode cX8_start 11 = .ok (.getfield 23, 3) := by decide +kernel
theorem dX8_start_14 : decode cX8_start 14 = .ok (.aload_n 0, 1) := by decide +kernel
theorem dX8_start_15 : decode cX8_start 15 = .ok (.getfield 83, 3) := by decide +kernel
theorem dX8_start_18 : decode cX8_start 18 = .ok (.iconst 0, 1) := by decide +kernel
theorem dX8_start_19 : decode cX8_start 19 = .ok (.iastore, 1) := by decide +kernel
theorem dX8_start_20 : decode cX8_start 20 = .ok (.return_, 1) := by decide +kernel
theorem dX8_part_0 : decode cX8_part 0 = .ok (.aload_n 0, 1) := by decide +kernel
theorem dX8_part_1 : decode cX8_part 1 = .ok (.getfield 26, 3) := by decide +kernel
theorem dX8_part_4 : decode cX8_part 4 = .ok (.bipush 16, 2) := by decide +kernel
theorem dX8_part_6 : decode cX8_part 6 = .ok (.aload_n 0, 1) := by decide +kernel
theorem dX8_part_7 : decode cX8_part 7 = .ok (.getfield 83, 3) := by decide +kernel
theorem dX8_part_10 : decode cX8_part 10 = .ok (.imul, 1) := by decide +kernel
theorem dX8_part_11 : decode cX8_part 11 = .ok (.aload_n 0, 1) := by decide +kernel
theorem dX8_part_12 : decode cX8_part 12 = .ok (.getfield 23, 3) := by decide +kernel
theorem dX8_part_15 : decode cX8_part 15 = .ok (.aload_n 0, 1) := by decide +kernel
theorem dX8_part_16 : decode cX8_part 16 = .ok (.getfield 83, 3) := by decide +kernel
theorem dX8_part_19 : decode cX8_part 19 = .ok (.iaload, 1) := by decide +kernel
theorem dX8_part_20 : decode cX8_part 20 = .ok (.iadd, 1) := by decide +kernel
theorem dX8_part_21 : decode cX8_part 21 = .ok (.lload_n 1, 1) := by decide +kernel
theorem dX8_part_22 : decode cX8_part 22 = .ok (.lastore, 1) := by decide +kernel
theorem dX8_part_23 : decode cX8_part 23 = .ok (.aload_n 0, 1) := by decide +kernel
theorem dX8_part_24 : decode cX8_part 24 = .ok (.getfield 23, 3) := by decide +kernel
theorem dX8_part_27 : decode cX8_part 27 = .ok (.aload_n 0, 1) := by decide +kernel
theorem dX8_part_28 : decode cX8_part 28 = .ok (.getfield 83, 3) := by decide +kernel
theorem dX8_part_31 : decode cX8_part 31 = .ok (.dup2, 1) := by decide +kernel
theorem dX8_part_32 : decode cX8_part 32 = .ok (.iaload, 1) := by decide +kernel
theorem dX8_part_33 : decode cX8_part 33 = .ok (.iconst 1, 1) := by decide +kernel
theorem dX8_part_34 : decode cX8_part 34 = .ok (.iadd, 1) := by decide +kernel
theorem dX8_part_35 : decode cX8_part 35 = .ok (.iastore, 1) := by decide +kernel
theorem dX8_part_36 : decode cX8_part 36 = .ok (.return_, 1) := by decide +kernel
theorem dX8_isFigurePart_0 : decode cX8_isFigurePart 0 = .ok (.aload_n 0, 1) := by decide +kernel
theorem dX8_isFigurePart_1 : decode cX8_isFigurePart 1 = .ok (.getfield 20, 3) := by decide +kernel
theorem dX8_isFigurePart_4 : decode cX8_isFigurePart 4 = .ok (.iload_n 1, 1) := by decide +kernel
theorem dX8_isFigurePart_5 : decode cX8_isFigurePart 5 = .ok (.iaload, 1) := by decide +kernel
theorem dX8_isFigurePart_6 : decode cX8_isFigurePart 6 = .ok (.iconst 4, 1) := by decide +kernel
theorem dX8_isFigurePart_7 : decode cX8_isFigurePart 7 = .ok (.if_icmp .ne 7, 3) := by decide +kernel
theorem dX8_isFigurePart_10 : decode cX8_isFigurePart 10 = .ok (.iconst 1, 1) := by decide +kernel
theorem dX8_isFigurePart_11 : decode cX8_isFigurePart 11 = .ok (.goto 4, 3) := by decide +kernel
theorem dX8_isFigurePart_14 : decode cX8_isFigurePart 14 = .ok (.iconst 0, 1) := by decide +kernel
theorem dX8_isFigurePart_15 : decode cX8_isFigurePart 15 = .ok (.ireturn, 1) := by decide +kernel
theorem dX8_leastLike_0 : decode cX8_leastLike 0 = .ok (.iconst 0, 1) := by decide +kernel
theorem dX8_leastLike_1 : decode cX8_leastLike 1 = .ok (.istore_n 2, 1) := by decide +kernel
theorem dX8_leastLike_2 : decode cX8_leastLike 2 = .ok (.iload_n 2, 1) := by decide +kernel
theorem dX8_leastLike_3 : decode cX8_leastLike 3 = .ok (.iload_n 1, 1) := by decide +kernel
theorem dX8_leastLike_4 : decode cX8_leastLike 4 = .ok (.if_icmp .ge 151, 3) := by decide +kernel
theorem dX8_leastLike_7 : decode cX8_leastLike 7 = .ok (.aload_n 0, 1) := by decide +kernel
theorem dX8_leastLike_8 : decode cX8_leastLike 8 = .ok (.getfield 20, 3) := by decide +kernel
theorem dX8_leastLike_11 : decode cX8_leastLike 11 = .ok (.iload_n 2, 1) := by decide +kernel
theorem dX8_leastLike_12 : decode cX8_leastLike 12 = .ok (.iaload, 1) := by decide +kernel
theorem dX8_leastLike_13 : decode cX8_leastLike 13 = .ok (.aload_n 0, 1) := by decide +kernel
theorem dX8_leastLike_14 : decode cX8_leastLike 14 = .ok (.getfield 20, 3) := by decide +kernel
theorem dX8_leastLike_17 : decode cX8_leastLike 17 = .ok (.iload_n 1, 1) := by decide +kernel
theorem dX8_leastLike_18 : decode cX8_leastLike 18 = .ok (.iaload, 1) := by decide +kernel
theorem dX8_leastLike_19 : decode cX8_leastLike 19 = .ok (.if_icmp .ne 33, 3) := by decide +kernel
theorem dX8_leastLike_22 : decode cX8_leastLike 22 = .ok (.aload_n 0, 1) := by decide +kernel
theorem dX8_leastLike_23 : decode cX8_leastLike 23 = .ok (.getfield 20, 3) := by decide +kernel
theorem dX8_leastLike_26 : decode cX8_leastLike 26 = .ok (.iload_n 1, 1) := by decide +kernel
theorem dX8_leastLike_27 : decode cX8_leastLike 27 = .ok (.iaload, 1) := by decide +kernel
theorem dX8_leastLike_28 : decode cX8_leastLike 28 = .ok (.bipush 6, 2) := by decide +kernel
theorem dX8_leastLike_30 : decode cX8_leastLike 30 = .ok (.if_icmp .eq 22, 3) := by decide +kernel
theorem dX8_leastLike_33 : decode cX8_leastLike 33 = .ok (.aload_n 0, 1) := by decide +kernel
theorem dX8_leastLike_34 : decode cX8_leastLike 34 = .ok (.getfield 23, 3) := by decide +kernel
theorem dX8_leastLike_37 : decode cX8_leastLike 37 = .ok (.iload_n 2, 1) := by decide +kernel
theorem dX8_leastLike_38 : decode cX8_leastLike 38 = .ok (.iaload, 1) := by decide +kernel
theorem dX8_leastLike_39 : decode cX8_leastLike 39 = .ok (.aload_n 0, 1) := by decide +kernel
theorem dX8_leastLike_40 : decode cX8_leastLike 40 = .ok (.getfield 23, 3) := by decide +kernel
theorem dX8_leastLike_43 : decode cX8_leastLike 43 = .ok (.iload_n 1, 1) := by decide +kernel
theorem dX8_leastLike_44 : decode cX8_leastLike 44 = .ok (.iaload, 1) := by decide +kernel
theorem dX8_leastLike_45 : decode cX8_leastLike 45 = .ok (.if_icmp .ne 7, 3) := by decide +kernel
theorem dX8_leastLike_48 : decode cX8_leastLike 48 = .ok (.iconst 1, 1) := by decide +kernel
theorem dX8_leastLike_49 : decode cX8_leastLike 49 = .ok (.goto 4, 3) := by decide +kernel
theorem dX8_leastLike_52 : decode cX8_leastLike 52 = .ok (.iconst 0, 1) := by decide +kernel
theorem dX8_leastLike_53 : decode cX8_leastLike 53 = .ok (.istore_n 3, 1) := by decide +kernel
theorem dX8_leastLike_54 : decode cX8_leastLike 54 = .ok (.iconst 0, 1) := by decide +kernel
theorem dX8_leastLike_55 : decode cX8_leastLike 55 = .ok (.istore 4, 2) := by decide +kernel
theorem dX8_leastLike_57 : decode cX8_leastLike 57 = .ok (.iload_n 3, 1) := by decide +kernel
theorem dX8_leastLike_58 : decode cX8_leastLike 58 = .ok (.ifCond .eq 85, 3) := by decide +kernel
theorem dX8_leastLike_61 : decode cX8_leastLike 61 = .ok (.iload 4, 2) := by decide +kernel
theorem dX8_leastLike_63 : decode cX8_leastLike 63 = .ok (.aload_n 0, 1) := by decide +kernel
theorem dX8_leastLike_64 : decode cX8_leastLike 64 = .ok (.getfield 23, 3) := by decide +kernel
theorem dX8_leastLike_67 : decode cX8_leastLike 67 = .ok (.iload_n 1, 1) := by decide +kernel
theorem dX8_leastLike_68 : decode cX8_leastLike 68 = .ok (.iaload, 1) := by decide +kernel
theorem dX8_leastLike_69 : decode cX8_leastLike 69 = .ok (.if_icmp .ge 74, 3) := by decide +kernel
theorem dX8_leastLike_72 : decode cX8_leastLike 72 = .ok (.aload_n 0, 1) := by decide +kernel
theorem dX8_leastLike_73 : decode cX8_leastLike 73 = .ok (.iload_n 1, 1) := by decide +kernel
theorem dX8_leastLike_74 : decode cX8_leastLike 74 = .ok (.invokevirtual 86, 3) := by decide +kernel
theorem dX8_leastLike_77 : decode cX8_leastLike 77 = .ok (.ifCond .eq 36, 3) := by decide +kernel
theorem dX8_leastLike_80 : decode cX8_leastLike 80 = .ok (.aload_n 0, 1) := by decide +kernel
theorem dX8_leastLike_81 : decode cX8_leastLike 81 = .ok (.aload_n 0, 1) := by decide +kernel
theorem dX8_leastLike_82 : decode cX8_leastLike 82 = .ok (.iload_n 2, 1) := by decide +kernel
theorem dX8_leastLike_83 : decode cX8_leastLike 83 = .ok (.iload 4, 2) := by decide +kernel
theorem dX8_leastLike_85 : decode cX8_leastLike 85 = .ok (.invokevirtual 90, 3) := by decide +kernel
theorem dX8_leastLike_88 : decode cX8_leastLike 88 = .ok (.invokevirtual 94, 3) := by decide +kernel
theorem dX8_leastLike_91 : decode cX8_leastLike 91 = .ok (.aload_n 0, 1) := by decide +kernel
theorem dX8_leastLike_92 : decode cX8_leastLike 92 = .ok (.aload_n 0, 1) := by decide +kernel
theorem dX8_leastLike_93 : decode cX8_leastLike 93 = .ok (.iload_n 1, 1) := by decide +kernel
theorem dX8_leastLike_94 : decode cX8_leastLike 94 = .ok (.iload 4, 2) := by decide +kernel
theorem dX8_leastLike_96 : decode cX8_leastLike 96 = .ok (.invokevirtual 90, 3) := by decide +kernel
theorem dX8_leastLike_99 : decode cX8_leastLike 99 = .ok (.invokevirtual 94, 3) := by decide +kernel
theorem dX8_leastLike_102 : decode cX8_leastLike 102 = .ok (.if_icmp .ne 7, 3) := by decide +kernel
theorem dX8_leastLike_105 : decode cX8_leastLike 105 = .ok (.iconst 1, 1) := by decide +kernel
theorem dX8_leastLike_106 : decode cX8_leastLike 106 = .ok (.goto 30, 3) := by decide +kernel
theorem dX8_leastLike_109 : decode cX8_leastLike 109 = .ok (.iconst 0, 1) := by decide +kernel
theorem dX8_leastLike_110 : decode cX8_leastLike 110 = .ok (.goto 26, 3) := by decide +kernel
theorem dX8_leastLike_113 : decode cX8_leastLike 113 = .ok (.aload_n 0, 1) := by decide +kernel
theorem dX8_leastLike_114 : decode cX8_leastLike 114 = .ok (.iload_n 2, 1) := by decide +kernel
theorem dX8_leastLike_115 : decode cX8_leastLike 115 = .ok (.iload 4, 2) := by decide +kernel
theorem dX8_leastLike_117 : decode cX8_leastLike 117 = .ok (.invokevirtual 90, 3) := by decide +kernel
theorem dX8_leastLike_120 : decode cX8_leastLike 120 = .ok (.aload_n 0, 1) := by decide +kernel
theorem dX8_leastLike_121 : decode cX8_leastLike 121 = .ok (.iload_n 1, 1) := by decide +kernel
theorem dX8_leastLike_122 : decode cX8_leastLike 122 = .ok (.iload 4, 2) := by decide +kernel
theorem dX8_leastLike_124 : decode cX8_leastLike 124 = .ok (.invokevirtual 90, 3) := by decide +kernel
theorem dX8_leastLike_127 : decode cX8_leastLike 127 = .ok (.lcmp, 1) := by decide +kernel
theorem dX8_leastLike_128 : decode cX8_leastLike 128 = .ok (.ifCond .ne 7, 3) := by decide +kernel
theorem dX8_leastLike_131 : decode cX8_leastLike 131 = .ok (.iconst 1, 1) := by decide +kernel
theorem dX8_leastLike_132 : decode cX8_leastLike 132 = .ok (.goto 4, 3) := by decide +kernel
theorem dX8_leastLike_135 : decode cX8_leastLike 135 = .ok (.iconst 0, 1) := by decide +kernel
theorem dX8_leastLike_136 : decode cX8_leastLike 136 = .ok (.istore_n 3, 1) := by decide +kernel
theorem dX8_leastLike_137 : decode cX8_leastLike 137 = .ok (.iinc 4 1, 3) := by decide +kernel
theorem dX8_leastLike_140 : decode cX8_leastLike 140 = .ok (.goto (-83), 3) := by decide +kernel
theorem dX8_leastLike_143 : decode cX8_leastLike 143 = .ok (.iload_n 3, 1) := by decide +kernel
theorem dX8_leastLike_144 : decode cX8_leastLike 144 = .ok (.ifCond .eq 5, 3) := by decide +kernel
theorem dX8_leastLike_147 : decode cX8_leastLike 147 = .ok (.iload_n 2, 1) := by decide +kernel
theorem dX8_leastLike_148 : decode cX8_leastLike 148 = .ok (.ireturn, 1) := by decide +kernel
theorem dX8_leastLike_149 : decode cX8_leastLike 149 = .ok (.iinc 2 1, 3) := by decide +kernel
theorem dX8_leastLike_152 : decode cX8_leastLike 152 = .ok (.goto (-150), 3) := by decide +kernel
theorem dX8_leastLike_155 : decode cX8_leastLike 155 = .ok (.iload_n 1, 1) := by decide +kernel
theorem dX8_leastLike_156 : decode cX8_leastLike 156 = .ok (.ireturn, 1) := by decide +kernel
theorem dX8_likeOf_0 : decode cX8_likeOf 0 = .ok (.lload_n 1, 1) := by decide +kernel
theorem dX8_likeOf_1 : decode cX8_likeOf 1 = .ok (.ldc2_w 98, 3) := by decide +kernel
theorem dX8_likeOf_4 : decode cX8_likeOf 4 = .ok (.lcmp, 1) := by decide +kernel
theorem dX8_likeOf_5 : decode cX8_likeOf 5 = .ok (.ifCond .ne 7, 3) := by decide +kernel
theorem dX8_likeOf_8 : decode cX8_likeOf 8 = .ok (.iconst (-1), 1) := by decide +kernel
theorem dX8_likeOf_9 : decode cX8_likeOf 9 = .ok (.goto 10, 3) := by decide +kernel
theorem dX8_likeOf_12 : decode cX8_likeOf 12 = .ok (.aload_n 0, 1) := by decide +kernel
theorem dX8_likeOf_13 : decode cX8_likeOf 13 = .ok (.getfield 34, 3) := by decide +kernel
theorem dX8_likeOf_16 : decode cX8_likeOf 16 = .ok (.lload_n 1, 1) := by decide +kernel
theorem dX8_likeOf_17 : decode cX8_likeOf 17 = .ok (.l2i, 1) := by decide +kernel
theorem dX8_likeOf_18 : decode cX8_likeOf 18 = .ok (.iaload, 1) := by decide +kernel
theorem dX8_likeOf_19 : decode cX8_likeOf 19 = .ok (.ireturn, 1) := by decide +kernel
theorem dX8_folded_0 : decode cX8_folded 0 = .ok (.lload_n 0, 1) := by decide +kernel
theorem dX8_folded_1 : decode cX8_folded 1 = .ok (.l2i, 1) := by decide +kernel
theorem dX8_folded_2 : decode cX8_folded 2 = .ok (.lload_n 0, 1) := by decide +kernel
theorem dX8_folded_3 : decode cX8_folded 3 = .ok (.bipush 32, 2) := by decide +kernel
theorem dX8_folded_5 : decode cX8_folded 5 = .ok (.lushr, 1) := by decide +kernel
theorem dX8_folded_6 : decode cX8_folded 6 = .ok (.l2i, 1) := by decide +kernel
theorem dX8_folded_7 : decode cX8_folded 7 = .ok (.ixor, 1) := by decide +kernel
theorem dX8_folded_8 : decode cX8_folded 8 = .ok (.ireturn, 1) := by decide +kernel
theorem dX8_hashOf_0 : decode cX8_hashOf 0 = .ok (.aload_n 0, 1) := by decide +kernel
theorem dX8_hashOf_1 : decode cX8_hashOf 1 = .ok (.getfield 20, 3) := by decide +kernel
theorem dX8_hashOf_4 : decode cX8_hashOf 4 = .ok (.iload_n 1, 1) := by decide +kernel
theorem dX8_hashOf_5 : decode cX8_hashOf 5 = .ok (.iaload, 1) := by decide +kernel
theorem dX8_hashOf_6 : decode cX8_hashOf 6 = .ok (.istore_n 2, 1) := by decide +kernel
theorem dX8_hashOf_7 : decode cX8_hashOf 7 = .ok (.aload_n 0, 1) := by decide +kernel
theorem dX8_hashOf_8 : decode cX8_hashOf 8 = .ok (.getfield 20, 3) := by decide +kernel
theorem dX8_hashOf_11 : decode cX8_hashOf 11 = .ok (.iload_n 1, 1) := by decide +kernel
theorem dX8_hashOf_12 : decode cX8_hashOf 12 = .ok (.iaload, 1) := by decide +kernel
theorem dX8_hashOf_13 : decode cX8_hashOf 13 = .ok (.bipush 6, 2) := by decide +kernel
theorem dX8_hashOf_15 : decode cX8_hashOf 15 = .ok (.if_icmp .ne 14, 3) := by decide +kernel
theorem dX8_hashOf_18 : decode cX8_hashOf 18 = .ok (.bipush 31, 2) := by decide +kernel
theorem dX8_hashOf_20 : decode cX8_hashOf 20 = .ok (.iload_n 2, 1) := by decide +kernel
theorem dX8_hashOf_21 : decode cX8_hashOf 21 = .ok (.imul, 1) := by decide +kernel
theorem dX8_hashOf_22 : decode cX8_hashOf 22 = .ok (.iload_n 1, 1) := by decide +kernel
theorem dX8_hashOf_23 : decode cX8_hashOf 23 = .ok (.i2l, 1) := by decide +kernel
theorem dX8_hashOf_24 : decode cX8_hashOf 24 = .ok (.invokestatic 100, 3) := by decide +kernel
theorem dX8_hashOf_27 : decode cX8_hashOf 27 = .ok (.iadd, 1) := by decide +kernel
theorem dX8_hashOf_28 : decode cX8_hashOf 28 = .ok (.ireturn, 1) := by decide +kernel
theorem dX8_hashOf_29 : decode cX8_hashOf 29 = .ok (.iconst 0, 1) := by decide +kernel
theorem dX8_hashOf_30 : decode cX8_hashOf 30 = .ok (.istore_n 3, 1) := by decide +kernel
theorem dX8_hashOf_31 : decode cX8_hashOf 31 = .ok (.iload_n 3, 1) := by decide +kernel
theorem dX8_hashOf_32 : decode cX8_hashOf 32 = .ok (.aload_n 0, 1) := by decide +kernel
theorem dX8_hashOf_33 : decode cX8_hashOf 33 = .ok (.getfield 23, 3) := by decide +kernel
theorem dX8_hashOf_36 : decode cX8_hashOf 36 = .ok (.iload_n 1, 1) := by decide +kernel
theorem dX8_hashOf_37 : decode cX8_hashOf 37 = .ok (.iaload, 1) := by decide +kernel
theorem dX8_hashOf_38 : decode cX8_hashOf 38 = .ok (.if_icmp .ge 60, 3) := by decide +kernel
theorem dX8_hashOf_41 : decode cX8_hashOf 41 = .ok (.aload_n 0, 1) := by decide +kernel
theorem dX8_hashOf_42 : decode cX8_hashOf 42 = .ok (.iload_n 1, 1) := by decide +kernel
theorem dX8_hashOf_43 : decode cX8_hashOf 43 = .ok (.iload_n 3, 1) := by decide +kernel
theorem dX8_hashOf_44 : decode cX8_hashOf 44 = .ok (.invokevirtual 90, 3) := by decide +kernel
theorem dX8_hashOf_47 : decode cX8_hashOf 47 = .ok (.lstore 4, 2) := by decide +kernel
theorem dX8_hashOf_49 : decode cX8_hashOf 49 = .ok (.bipush 31, 2) := by decide +kernel
theorem dX8_hashOf_51 : decode cX8_hashOf 51 = .ok (.iload_n 2, 1) := by decide +kernel
theorem dX8_hashOf_52 : decode cX8_hashOf 52 = .ok (.imul, 1) := by decide +kernel
theorem dX8_hashOf_53 : decode cX8_hashOf 53 = .ok (.aload_n 0, 1) := by decide +kernel
theorem dX8_hashOf_54 : decode cX8_hashOf 54 = .ok (.iload_n 1, 1) := by decide +kernel
theorem dX8_hashOf_55 : decode cX8_hashOf 55 = .ok (.invokevirtual 86, 3) := by decide +kernel
theorem dX8_hashOf_58 : decode cX8_hashOf 58 = .ok (.ifCond .eq 27, 3) := by decide +kernel
theorem dX8_hashOf_61 : decode cX8_hashOf 61 = .ok (.lload 4, 2) := by decide +kernel
theorem dX8_hashOf_63 : decode cX8_hashOf 63 = .ok (.ldc2_w 98, 3) := by decide +kernel
theorem dX8_hashOf_66 : decode cX8_hashOf 66 = .ok (.lcmp, 1) := by decide +kernel
theorem dX8_hashOf_67 : decode cX8_hashOf 67 = .ok (.ifCond .ne 7, 3) := by decide +kernel
theorem dX8_hashOf_70 : decode cX8_hashOf 70 = .ok (.iconst 0, 1) := by decide +kernel
theorem dX8_hashOf_71 : decode cX8_hashOf 71 = .ok (.goto 19, 3) := by decide +kernel
theorem dX8_hashOf_74 : decode cX8_hashOf 74 = .ok (.aload_n 0, 1) := by decide +kernel
theorem dX8_hashOf_75 : decode cX8_hashOf 75 = .ok (.getfield 37, 3) := by decide +kernel
theorem dX8_hashOf_78 : decode cX8_hashOf 78 = .ok (.lload 4, 2) := by decide +kernel
theorem dX8_hashOf_80 : decode cX8_hashOf 80 = .ok (.l2i, 1) := by decide +kernel
theorem dX8_hashOf_81 : decode cX8_hashOf 81 = .ok (.iaload, 1) := by decide +kernel
theorem dX8_hashOf_82 : decode cX8_hashOf 82 = .ok (.goto 8, 3) := by decide +kernel
theorem dX8_hashOf_85 : decode cX8_hashOf 85 = .ok (.lload 4, 2) := by decide +kernel
theorem dX8_hashOf_87 : decode cX8_hashOf 87 = .ok (.invokestatic 100, 3) := by decide +kernel
theorem dX8_hashOf_90 : decode cX8_hashOf 90 = .ok (.iadd, 1) := by decide +kernel
theorem dX8_hashOf_91 : decode cX8_hashOf 91 = .ok (.istore_n 2, 1) := by decide +kernel
theorem dX8_hashOf_92 : decode cX8_hashOf 92 = .ok (.iinc 3 1, 3) := by decide +kernel
theorem dX8_hashOf_95 : decode cX8_hashOf 95 = .ok (.goto (-64), 3) := by decide +kernel
theorem dX8_hashOf_98 : decode cX8_hashOf 98 = .ok (.iload_n 2, 1) := by decide +kernel
theorem dX8_hashOf_99 : decode cX8_hashOf 99 = .ok (.ireturn, 1) := by decide +kernel
theorem dX8_made_0 : decode cX8_made 0 = .ok (.aload_n 0, 1) := by decide +kernel
theorem dX8_made_1 : decode cX8_made 1 = .ok (.getfield 34, 3) := by decide +kernel
theorem dX8_made_4 : decode cX8_made 4 = .ok (.aload_n 0, 1) := by decide +kernel
theorem dX8_made_5 : decode cX8_made 5 = .ok (.getfield 83, 3) := by decide +kernel
theorem dX8_made_8 : decode cX8_made 8 = .ok (.aload_n 0, 1) := by decide +kernel
theorem dX8_made_9 : decode cX8_made 9 = .ok (.aload_n 0, 1) := by decide +kernel
theorem dX8_made_10 : decode cX8_made 10 = .ok (.getfield 83, 3) := by decide +kernel
theorem dX8_made_13 : decode cX8_made 13 = .ok (.invokevirtual 103, 3) := by decide +kernel
theorem dX8_made_16 : decode cX8_made 16 = .ok (.iastore, 1) := by decide +kernel
theorem dX8_made_17 : decode cX8_made 17 = .ok (.aload_n 0, 1) := by decide +kernel
theorem dX8_made_18 : decode cX8_made 18 = .ok (.getfield 37, 3) := by decide +kernel
theorem dX8_made_21 : decode cX8_made 21 = .ok (.aload_n 0, 1) := by decide +kernel
theorem dX8_made_22 : decode cX8_made 22 = .ok (.getfield 83, 3) := by decide +kernel
theorem dX8_made_25 : decode cX8_made 25 = .ok (.aload_n 0, 1) := by decide +kernel
theorem dX8_made_26 : decode cX8_made 26 = .ok (.aload_n 0, 1) := by decide +kernel
theorem dX8_made_27 : decode cX8_made 27 = .ok (.getfield 83, 3) := by decide +kernel
theorem dX8_made_30 : decode cX8_made 30 = .ok (.invokevirtual 107, 3) := by decide +kernel
theorem dX8_made_33 : decode cX8_made 33 = .ok (.iastore, 1) := by decide +kernel
theorem dX8_made_34 : decode cX8_made 34 = .ok (.aload_n 0, 1) := by decide +kernel
theorem dX8_made_35 : decode cX8_made 35 = .ok (.dup, 1) := by decide +kernel
theorem dX8_made_36 : decode cX8_made 36 = .ok (.getfield 83, 3) := by decide +kernel
theorem dX8_made_39 : decode cX8_made 39 = .ok (.iconst 1, 1) := by decide +kernel
theorem dX8_made_40 : decode cX8_made 40 = .ok (.iadd, 1) := by decide +kernel
theorem dX8_made_41 : decode cX8_made 41 = .ok (.putfield 83, 3) := by decide +kernel
theorem dX8_made_44 : decode cX8_made 44 = .ok (.aload_n 0, 1) := by decide +kernel
theorem dX8_made_45 : decode cX8_made 45 = .ok (.getfield 83, 3) := by decide +kernel
theorem dX8_made_48 : decode cX8_made 48 = .ok (.iconst 1, 1) := by decide +kernel
theorem dX8_made_49 : decode cX8_made 49 = .ok (.isub, 1) := by decide +kernel
theorem dX8_made_50 : decode cX8_made 50 = .ok (.ireturn, 1) := by decide +kernel
theorem dX8_clean_0 : decode cX8_clean 0 = .ok (.lload_n 0, 1) := by decide +kernel
theorem dX8_clean_1 : decode cX8_clean 1 = .ok (.ldc2_w 110, 3) := by decide +kernel
theorem dX8_clean_4 : decode cX8_clean 4 = .ok (.land, 1) := by decide +kernel
theorem dX8_clean_5 : decode cX8_clean 5 = .ok (.ldc2_w 112, 3) := by decide +kernel
theorem dX8_clean_8 : decode cX8_clean 8 = .ok (.lcmp, 1) := by decide +kernel
theorem dX8_clean_9 : decode cX8_clean 9 = .ok (.ifCond .le 9, 3) := by decide +kernel
theorem dX8_clean_12 : decode cX8_clean 12 = .ok (.ldc2_w 114, 3) := by decide +kernel
theorem dX8_clean_15 : decode cX8_clean 15 = .ok (.goto 4, 3) := by decide +kernel
theorem dX8_clean_18 : decode cX8_clean 18 = .ok (.lload_n 0, 1) := by decide +kernel
theorem dX8_clean_19 : decode cX8_clean 19 = .ok (.lreturn, 1) := by decide +kernel
theorem dX8_point_0 : decode cX8_point 0 = .ok (.aload_n 0, 1) := by decide +kernel
theorem dX8_point_1 : decode cX8_point 1 = .ok (.invokevirtual 116, 3) := by decide +kernel
theorem dX8_point_4 : decode cX8_point 4 = .ok (.aload_n 0, 1) := by decide +kernel
theorem dX8_point_5 : decode cX8_point 5 = .ok (.getfield 83, 3) := by decide +kernel
theorem dX8_point_8 : decode cX8_point 8 = .ok (.bipush 60, 2) := by decide +kernel
theorem dX8_point_10 : decode cX8_point 10 = .ok (.if_icmp .ne 6, 3) := by decide +kernel
theorem dX8_point_13 : decode cX8_point 13 = .ok (.bipush (-3), 2) := by decide +kernel
theorem dX8_point_15 : decode cX8_point 15 = .ok (.ireturn, 1) := by decide +kernel
theorem dX8_point_16 : decode cX8_point 16 = .ok (.aload_n 0, 1) := by decide +kernel
theorem dX8_point_17 : decode cX8_point 17 = .ok (.iconst 0, 1) := by decide +kernel
theorem dX8_point_18 : decode cX8_point 18 = .ok (.invokevirtual 119, 3) := by decide +kernel
theorem dX8_point_21 : decode cX8_point 21 = .ok (.aload_n 0, 1) := by decide +kernel
theorem dX8_point_22 : decode cX8_point 22 = .ok (.lload_n 1, 1) := by decide +kernel
theorem dX8_point_23 : decode cX8_point 23 = .ok (.invokestatic 123, 3) := by decide +kernel
theorem dX8_point_26 : decode cX8_point 26 = .ok (.invokevirtual 127, 3) := by decide +kernel
theorem dX8_point_29 : decode cX8_point 29 = .ok (.aload_n 0, 1) := by decide +kernel
theorem dX8_point_30 : decode cX8_point 30 = .ok (.lload_n 3, 1) := by decide +kernel
theorem dX8_point_31 : decode cX8_point 31 = .ok (.invokestatic 123, 3) := by decide +kernel
theorem dX8_point_34 : decode cX8_point 34 = .ok (.invokevirtual 127, 3) := by decide +kernel
theorem dX8_point_37 : decode cX8_point 37 = .ok (.aload_n 0, 1) := by decide +kernel
theorem dX8_point_38 : decode cX8_point 38 = .ok (.invokevirtual 131, 3) := by decide +kernel
theorem dX8_point_41 : decode cX8_point 41 = .ok (.ireturn, 1) := by decide +kernel
theorem dX8_span_0 : decode cX8_span 0 = .ok (.aload_n 0, 1) := by decide +kernel
theorem dX8_span_1 : decode cX8_span 1 = .ok (.invokevirtual 116, 3) := by decide +kernel
theorem dX8_span_4 : decode cX8_span 4 = .ok (.aload_n 0, 1) := by decide +kernel
theorem dX8_span_5 : decode cX8_span 5 = .ok (.getfield 83, 3) := by decide +kernel
theorem dX8_span_8 : decode cX8_span 8 = .ok (.bipush 60, 2) := by decide +kernel
theorem dX8_span_10 : decode cX8_span 10 = .ok (.if_icmp .ne 6, 3) := by decide +kernel
theorem dX8_span_13 : decode cX8_span 13 = .ok (.bipush (-3), 2) := by decide +kernel
theorem dX8_span_15 : decode cX8_span 15 = .ok (.ireturn, 1) := by decide +kernel
theorem dX8_span_16 : decode cX8_span 16 = .ok (.iload_n 1, 1) := by decide +kernel
theorem dX8_span_17 : decode cX8_span 17 = .ok (.iload_n 2, 1) := by decide +kernel
theorem dX8_span_18 : decode cX8_span 18 = .ok (.if_icmp .le 12, 3) := by decide +kernel
theorem dX8_span_21 : decode cX8_span 21 = .ok (.aload_n 0, 1) := by decide +kernel
theorem dX8_span_22 : decode cX8_span 22 = .ok (.bipush 7, 2) := by decide +kernel
theorem dX8_span_24 : decode cX8_span 24 = .ok (.iconst 1, 1) := by decide +kernel
theorem dX8_span_25 : decode cX8_span 25 = .ok (.iconst 1, 1) := by decide +kernel
theorem dX8_span_26 : decode cX8_span 26 = .ok (.invokevirtual 135, 3) := by decide +kernel
theorem dX8_span_29 : decode cX8_span 29 = .ok (.ireturn, 1) := by decide +kernel
theorem dX8_span_30 : decode cX8_span 30 = .ok (.aload_n 0, 1) := by decide +kernel
theorem dX8_span_31 : decode cX8_span 31 = .ok (.iconst 1, 1) := by decide +kernel
theorem dX8_span_32 : decode cX8_span 32 = .ok (.invokevirtual 119, 3) := by decide +kernel
theorem dX8_span_35 : decode cX8_span 35 = .ok (.aload_n 0, 1) := by decide +kernel
theorem dX8_span_36 : decode cX8_span 36 = .ok (.iload_n 1, 1) := by decide +kernel
theorem dX8_span_37 : decode cX8_span 37 = .ok (.i2l, 1) := by decide +kernel
theorem dX8_span_38 : decode cX8_span 38 = .ok (.invokevirtual 127, 3) := by decide +kernel
theorem dX8_span_41 : decode cX8_span 41 = .ok (.aload_n 0, 1) := by decide +kernel
theorem dX8_span_42 : decode cX8_span 42 = .ok (.iload_n 2, 1) := by decide +kernel
theorem dX8_span_43 : decode cX8_span 43 = .ok (.i2l, 1) := by decide +kernel
theorem dX8_span_44 : decode cX8_span 44 = .ok (.invokevirtual 127, 3) := by decide +kernel
theorem dX8_span_47 : decode cX8_span 47 = .ok (.aload_n 0, 1) := by decide +kernel
theorem dX8_span_48 : decode cX8_span 48 = .ok (.invokevirtual 131, 3) := by decide +kernel
theorem dX8_span_51 : decode cX8_span 51 = .ok (.ireturn, 1) := by decide +kernel
theorem dX8_wide_0 : decode cX8_wide 0 = .ok (.aload_n 0, 1) := by decide +kernel
theorem dX8_wide_1 : decode cX8_wide 1 = .ok (.invokevirtual 116, 3) := by decide +kernel
theorem dX8_wide_4 : decode cX8_wide 4 = .ok (.aload_n 0, 1) := by decide +kernel
theorem dX8_wide_5 : decode cX8_wide 5 = .ok (.getfield 83, 3) := by decide +kernel
theorem dX8_wide_8 : decode cX8_wide 8 = .ok (.bipush 60, 2) := by decide +kernel
theorem dX8_wide_10 : decode cX8_wide 10 = .ok (.if_icmp .ne 6, 3) := by decide +kernel
theorem dX8_wide_13 : decode cX8_wide 13 = .ok (.bipush (-3), 2) := by decide +kernel
theorem dX8_wide_15 : decode cX8_wide 15 = .ok (.ireturn, 1) := by decide +kernel
theorem dX8_wide_16 : decode cX8_wide 16 = .ok (.iload_n 1, 1) := by decide +kernel
theorem dX8_wide_17 : decode cX8_wide 17 = .ok (.iload_n 2, 1) := by decide +kernel
theorem dX8_wide_18 : decode cX8_wide 18 = .ok (.if_icmp .le 12, 3) := by decide +kernel
theorem dX8_wide_21 : decode cX8_wide 21 = .ok (.aload_n 0, 1) := by decide +kernel
theorem dX8_wide_22 : decode cX8_wide 22 = .ok (.bipush 7, 2) := by decide +kernel
theorem dX8_wide_24 : decode cX8_wide 24 = .ok (.iconst 1, 1) := by decide +kernel
theorem dX8_wide_25 : decode cX8_wide 25 = .ok (.iconst 1, 1) := by decide +kernel
theorem dX8_wide_26 : decode cX8_wide 26 = .ok (.invokevirtual 135, 3) := by decide +kernel
theorem dX8_wide_29 : decode cX8_wide 29 = .ok (.ireturn, 1) := by decide +kernel
theorem dX8_wide_30 : decode cX8_wide 30 = .ok (.iload_n 3, 1) := by decide +kernel
theorem dX8_wide_31 : decode cX8_wide 31 = .ok (.ifCond .ne 12, 3) := by decide +kernel
theorem dX8_wide_34 : decode cX8_wide 34 = .ok (.aload_n 0, 1) := by decide +kernel
theorem dX8_wide_35 : decode cX8_wide 35 = .ok (.bipush 6, 2) := by decide +kernel
theorem dX8_wide_37 : decode cX8_wide 37 = .ok (.iconst 2, 1) := by decide +kernel
theorem dX8_wide_38 : decode cX8_wide 38 = .ok (.iconst 0, 1) := by decide +kernel
theorem dX8_wide_39 : decode cX8_wide 39 = .ok (.invokevirtual 135, 3) := by decide +kernel
theorem dX8_wide_42 : decode cX8_wide 42 = .ok (.ireturn, 1) := by decide +kernel
theorem dX8_wide_43 : decode cX8_wide 43 = .ok (.iload_n 2, 1) := by decide +kernel
theorem dX8_wide_44 : decode cX8_wide 44 = .ok (.iload_n 1, 1) := by decide +kernel
theorem dX8_wide_45 : decode cX8_wide 45 = .ok (.isub, 1) := by decide +kernel
theorem dX8_wide_46 : decode cX8_wide 46 = .ok (.iload_n 3, 1) := by decide +kernel
theorem dX8_wide_47 : decode cX8_wide 47 = .ok (.irem, 1) := by decide +kernel
theorem dX8_wide_48 : decode cX8_wide 48 = .ok (.ifCond .eq 12, 3) := by decide +kernel
theorem dX8_wide_51 : decode cX8_wide 51 = .ok (.aload_n 0, 1) := by decide +kernel
theorem dX8_wide_52 : decode cX8_wide 52 = .ok (.bipush 7, 2) := by decide +kernel
theorem dX8_wide_54 : decode cX8_wide 54 = .ok (.iconst 2, 1) := by decide +kernel
theorem dX8_wide_55 : decode cX8_wide 55 = .ok (.iconst 2, 1) := by decide +kernel
theorem dX8_wide_56 : decode cX8_wide 56 = .ok (.invokevirtual 135, 3) := by decide +kernel
theorem dX8_wide_59 : decode cX8_wide 59 = .ok (.ireturn, 1) := by decide +kernel
theorem dX8_wide_60 : decode cX8_wide 60 = .ok (.aload_n 0, 1) := by decide +kernel
theorem dX8_wide_61 : decode cX8_wide 61 = .ok (.iconst 2, 1) := by decide +kernel
theorem dX8_wide_62 : decode cX8_wide 62 = .ok (.invokevirtual 119, 3) := by decide +kernel
theorem dX8_wide_65 : decode cX8_wide 65 = .ok (.aload_n 0, 1) := by decide +kernel
theorem dX8_wide_66 : decode cX8_wide 66 = .ok (.iload_n 1, 1) := by decide +kernel
theorem dX8_wide_67 : decode cX8_wide 67 = .ok (.i2l, 1) := by decide +kernel
theorem dX8_wide_68 : decode cX8_wide 68 = .ok (.invokevirtual 127, 3) := by decide +kernel
theorem dX8_wide_71 : decode cX8_wide 71 = .ok (.aload_n 0, 1) := by decide +kernel
theorem dX8_wide_72 : decode cX8_wide 72 = .ok (.iload_n 2, 1) := by decide +kernel
theorem dX8_wide_73 : decode cX8_wide 73 = .ok (.i2l, 1) := by decide +kernel
theorem dX8_wide_74 : decode cX8_wide 74 = .ok (.invokevirtual 127, 3) := by decide +kernel
theorem dX8_wide_77 : decode cX8_wide 77 = .ok (.aload_n 0, 1) := by decide +kernel
theorem dX8_wide_78 : decode cX8_wide 78 = .ok (.iload_n 3, 1) := by decide +kernel
theorem dX8_wide_79 : decode cX8_wide 79 = .ok (.i2l, 1) := by decide +kernel
theorem dX8_wide_80 : decode cX8_wide 80 = .ok (.invokevirtual 127, 3) := by decide +kernel
theorem dX8_wide_83 : decode cX8_wide 83 = .ok (.aload_n 0, 1) := by decide +kernel
theorem dX8_wide_84 : decode cX8_wide 84 = .ok (.invokevirtual 131, 3) := by decide +kernel
theorem dX8_wide_87 : decode cX8_wide 87 = .ok (.ireturn, 1) := by decide +kernel
theorem dX8_share_0 : decode cX8_share 0 = .ok (.aload_n 0, 1) := by decide +kernel
theorem dX8_share_1 : decode cX8_share 1 = .ok (.invokevirtual 116, 3) := by decide +kernel
theorem dX8_share_4 : decode cX8_share 4 = .ok (.aload_n 0, 1) := by decide +kernel
theorem dX8_share_5 : decode cX8_share 5 = .ok (.getfield 83, 3) := by decide +kernel
theorem dX8_share_8 : decode cX8_share 8 = .ok (.bipush 60, 2) := by decide +kernel
theorem dX8_share_10 : decode cX8_share 10 = .ok (.if_icmp .ne 6, 3) := by decide +kernel
theorem dX8_share_13 : decode cX8_share 13 = .ok (.bipush (-3), 2) := by decide +kernel
theorem dX8_share_15 : decode cX8_share 15 = .ok (.ireturn, 1) := by decide +kernel
theorem dX8_share_16 : decode cX8_share 16 = .ok (.lload_n 3, 1) := by decide +kernel
theorem dX8_share_17 : decode cX8_share 17 = .ok (.lconst 0, 1) := by decide +kernel
theorem dX8_share_18 : decode cX8_share 18 = .ok (.lcmp, 1) := by decide +kernel
theorem dX8_share_19 : decode cX8_share 19 = .ok (.ifCond .ne 12, 3) := by decide +kernel
theorem dX8_share_22 : decode cX8_share 22 = .ok (.aload_n 0, 1) := by decide +kernel
theorem dX8_share_23 : decode cX8_share 23 = .ok (.bipush 6, 2) := by decide +kernel
theorem dX8_share_25 : decode cX8_share 25 = .ok (.iconst 1, 1) := by decide +kernel
theorem dX8_share_26 : decode cX8_share 26 = .ok (.iconst 0, 1) := by decide +kernel
theorem dX8_share_27 : decode cX8_share 27 = .ok (.invokevirtual 135, 3) := by decide +kernel
theorem dX8_share_30 : decode cX8_share 30 = .ok (.ireturn, 1) := by decide +kernel
theorem dX8_share_31 : decode cX8_share 31 = .ok (.aload_n 0, 1) := by decide +kernel
theorem dX8_share_32 : decode cX8_share 32 = .ok (.iconst 3, 1) := by decide +kernel
theorem dX8_share_33 : decode cX8_share 33 = .ok (.invokevirtual 119, 3) := by decide +kernel
theorem dX8_share_36 : decode cX8_share 36 = .ok (.aload_n 0, 1) := by decide +kernel
theorem dX8_share_37 : decode cX8_share 37 = .ok (.lload_n 1, 1) := by decide +kernel
theorem dX8_share_38 : decode cX8_share 38 = .ok (.invokevirtual 127, 3) := by decide +kernel
theorem dX8_share_41 : decode cX8_share 41 = .ok (.aload_n 0, 1) := by decide +kernel
theorem dX8_share_42 : decode cX8_share 42 = .ok (.lload_n 3, 1) := by decide +kernel
theorem dX8_share_43 : decode cX8_share 43 = .ok (.invokevirtual 127, 3) := by decide +kernel
theorem dX8_share_46 : decode cX8_share 46 = .ok (.aload_n 0, 1) := by decide +kernel
theorem dX8_share_47 : decode cX8_share 47 = .ok (.lload_n 1, 1) := by decide +kernel
theorem dX8_share_48 : decode cX8_share 48 = .ok (.lload_n 3, 1) := by decide +kernel
theorem dX8_share_49 : decode cX8_share 49 = .ok (.ldiv, 1) := by decide +kernel
theorem dX8_share_50 : decode cX8_share 50 = .ok (.invokevirtual 127, 3) := by decide +kernel
theorem dX8_share_53 : decode cX8_share 53 = .ok (.aload_n 0, 1) := by decide +kernel
theorem dX8_share_54 : decode cX8_share 54 = .ok (.invokevirtual 131, 3) := by decide +kernel
theorem dX8_share_57 : decode cX8_share 57 = .ok (.ireturn, 1) := by decide +kernel
theorem dX8_pair_0 : decode cX8_pair 0 = .ok (.aload_n 0, 1) := by decide +kernel
theorem dX8_pair_1 : decode cX8_pair 1 = .ok (.invokevirtual 116, 3) := by decide +kernel
theorem dX8_pair_4 : decode cX8_pair 4 = .ok (.iload_n 1, 1) := by decide +kernel
theorem dX8_pair_5 : decode cX8_pair 5 = .ok (.iconst (-1), 1) := by decide +kernel
theorem dX8_pair_6 : decode cX8_pair 6 = .ok (.if_icmp .eq 11, 3) := by decide +kernel
theorem dX8_pair_9 : decode cX8_pair 9 = .ok (.aload_n 0, 1) := by decide +kernel
theorem dX8_pair_10 : decode cX8_pair 10 = .ok (.iload_n 1, 1) := by decide +kernel
theorem dX8_pair_11 : decode cX8_pair 11 = .ok (.invokevirtual 139, 3) := by decide +kernel
theorem dX8_pair_14 : decode cX8_pair 14 = .ok (.ifCond .eq 16, 3) := by decide +kernel
theorem dX8_pair_17 : decode cX8_pair 17 = .ok (.iload_n 2, 1) := by decide +kernel
theorem dX8_pair_18 : decode cX8_pair 18 = .ok (.iconst (-1), 1) := by decide +kernel
theorem dX8_pair_19 : decode cX8_pair 19 = .ok (.if_icmp .eq 14, 3) := by decide +kernel
theorem dX8_pair_22 : decode cX8_pair 22 = .ok (.aload_n 0, 1) := by decide +kernel
theorem dX8_pair_23 : decode cX8_pair 23 = .ok (.iload_n 2, 1) := by decide +kernel
theorem dX8_pair_24 : decode cX8_pair 24 = .ok (.invokevirtual 139, 3) := by decide +kernel
theorem dX8_pair_27 : decode cX8_pair 27 = .ok (.ifCond .ne 6, 3) := by decide +kernel
theorem dX8_pair_30 : decode cX8_pair 30 = .ok (.bipush (-2), 2) := by decide +kernel
theorem dX8_pair_32 : decode cX8_pair 32 = .ok (.ireturn, 1) := by decide +kernel
theorem dX8_pair_33 : decode cX8_pair 33 = .ok (.aload_n 0, 1) := by decide +kernel
theorem dX8_pair_34 : decode cX8_pair 34 = .ok (.getfield 83, 3) := by decide +kernel
theorem dX8_pair_37 : decode cX8_pair 37 = .ok (.bipush 60, 2) := by decide +kernel
theorem dX8_pair_39 : decode cX8_pair 39 = .ok (.if_icmp .ne 6, 3) := by decide +kernel
theorem dX8_pair_42 : decode cX8_pair 42 = .ok (.bipush (-3), 2) := by decide +kernel
theorem dX8_pair_44 : decode cX8_pair 44 = .ok (.ireturn, 1) := by decide +kernel
theorem dX8_pair_45 : decode cX8_pair 45 = .ok (.iload_n 1, 1) := by decide +kernel
theorem dX8_pair_46 : decode cX8_pair 46 = .ok (.iconst (-1), 1) := by decide +kernel
theorem dX8_pair_47 : decode cX8_pair 47 = .ok (.if_icmp .ne 11, 3) := by decide +kernel
theorem dX8_pair_50 : decode cX8_pair 50 = .ok (.aload_n 0, 1) := by decide +kernel
theorem dX8_pair_51 : decode cX8_pair 51 = .ok (.iconst 1, 1) := by decide +kernel
theorem dX8_pair_52 : decode cX8_pair 52 = .ok (.iconst 0, 1) := by decide +kernel
theorem dX8_pair_53 : decode cX8_pair 53 = .ok (.iconst 0, 1) := by decide +kernel
theorem dX8_pair_54 : decode cX8_pair 54 = .ok (.invokevirtual 135, 3) := by decide +kernel
theorem dX8_pair_57 : decode cX8_pair 57 = .ok (.ireturn, 1) := by decide +kernel
theorem dX8_pair_58 : decode cX8_pair 58 = .ok (.aload_n 0, 1) := by decide +kernel
theorem dX8_pair_59 : decode cX8_pair 59 = .ok (.iconst 4, 1) := by decide +kernel
theorem dX8_pair_60 : decode cX8_pair 60 = .ok (.invokevirtual 119, 3) := by decide +kernel
theorem dX8_pair_63 : decode cX8_pair 63 = .ok (.aload_n 0, 1) := by decide +kernel
theorem dX8_pair_64 : decode cX8_pair 64 = .ok (.iload_n 1, 1) := by decide +kernel
theorem dX8_pair_65 : decode cX8_pair 65 = .ok (.i2l, 1) := by decide +kernel
theorem dX8_pair_66 : decode cX8_pair 66 = .ok (.invokevirtual 127, 3) := by decide +kernel
theorem dX8_pair_69 : decode cX8_pair 69 = .ok (.aload_n 0, 1) := by decide +kernel
theorem dX8_pair_70 : decode cX8_pair 70 = .ok (.iload_n 2, 1) := by decide +kernel
theorem dX8_pair_71 : decode cX8_pair 71 = .ok (.i2l, 1) := by decide +kernel
theorem dX8_pair_72 : decode cX8_pair 72 = .ok (.invokevirtual 127, 3) := by decide +kernel
theorem dX8_pair_75 : decode cX8_pair 75 = .ok (.aload_n 0, 1) := by decide +kernel
theorem dX8_pair_76 : decode cX8_pair 76 = .ok (.invokevirtual 131, 3) := by decide +kernel
theorem dX8_pair_79 : decode cX8_pair 79 = .ok (.ireturn, 1) := by decide +kernel
theorem dX8_laid_0 : decode cX8_laid 0 = .ok (.iload_n 1, 1) := by decide +kernel
theorem dX8_laid_1 : decode cX8_laid 1 = .ok (.aload_n 0, 1) := by decide +kernel
theorem dX8_laid_2 : decode cX8_laid 2 = .ok (.getfield 80, 3) := by decide +kernel
theorem dX8_laid_5 : decode cX8_laid 5 = .ok (.if_icmp .ge 12, 3) := by decide +kernel
theorem dX8_laid_8 : decode cX8_laid 8 = .ok (.aload_n 0, 1) := by decide +kernel
theorem dX8_laid_9 : decode cX8_laid 9 = .ok (.getfield 17, 3) := by decide +kernel
theorem dX8_laid_12 : decode cX8_laid 12 = .ok (.iload_n 1, 1) := by decide +kernel
theorem dX8_laid_13 : decode cX8_laid 13 = .ok (.iaload, 1) := by decide +kernel
theorem dX8_laid_14 : decode cX8_laid 14 = .ok (.goto 4, 3) := by decide +kernel
theorem dX8_laid_17 : decode cX8_laid 17 = .ok (.iconst 0, 1) := by decide +kernel
theorem dX8_laid_18 : decode cX8_laid 18 = .ok (.ireturn, 1) := by decide +kernel
theorem dX8_row_0 : decode cX8_row 0 = .ok (.aload_n 0, 1) := by decide +kernel
theorem dX8_row_1 : decode cX8_row 1 = .ok (.invokevirtual 116, 3) := by decide +kernel
theorem dX8_row_4 : decode cX8_row 4 = .ok (.iload_n 1, 1) := by decide +kernel
theorem dX8_row_5 : decode cX8_row 5 = .ok (.bipush 12, 2) := by decide +kernel
theorem dX8_row_7 : decode cX8_row 7 = .ok (.if_icmp .le 6, 3) := by decide +kernel
theorem dX8_row_10 : decode cX8_row 10 = .ok (.bipush (-2), 2) := by decide +kernel
theorem dX8_row_12 : decode cX8_row 12 = .ok (.ireturn, 1) := by decide +kernel
theorem dX8_row_13 : decode cX8_row 13 = .ok (.aload_n 0, 1) := by decide +kernel
theorem dX8_row_14 : decode cX8_row 14 = .ok (.getfield 83, 3) := by decide +kernel
theorem dX8_row_17 : decode cX8_row 17 = .ok (.bipush 60, 2) := by decide +kernel
theorem dX8_row_19 : decode cX8_row 19 = .ok (.if_icmp .ne 6, 3) := by decide +kernel
theorem dX8_row_22 : decode cX8_row 22 = .ok (.bipush (-3), 2) := by decide +kernel
theorem dX8_row_24 : decode cX8_row 24 = .ok (.ireturn, 1) := by decide +kernel
theorem dX8_row_25 : decode cX8_row 25 = .ok (.iload_n 1, 1) := by decide +kernel
theorem dX8_row_26 : decode cX8_row 26 = .ok (.ifCond .ge 11, 3) := by decide +kernel
theorem dX8_row_29 : decode cX8_row 29 = .ok (.aload_n 0, 1) := by decide +kernel
theorem dX8_row_30 : decode cX8_row 30 = .ok (.iconst 5, 1) := by decide +kernel
theorem dX8_row_31 : decode cX8_row 31 = .ok (.iconst 0, 1) := by decide +kernel
theorem dX8_row_32 : decode cX8_row 32 = .ok (.iconst 0, 1) := by decide +kernel
theorem dX8_row_33 : decode cX8_row 33 = .ok (.invokevirtual 135, 3) := by decide +kernel
theorem dX8_row_36 : decode cX8_row 36 = .ok (.ireturn, 1) := by decide +kernel
theorem dX8_row_37 : decode cX8_row 37 = .ok (.iload_n 2, 1) := by decide +kernel
theorem dX8_row_38 : decode cX8_row 38 = .ok (.ifCond .lt 8, 3) := by decide +kernel
theorem dX8_row_41 : decode cX8_row 41 = .ok (.iload_n 2, 1) := by decide +kernel
theorem dX8_row_42 : decode cX8_row 42 = .ok (.iload_n 1, 1) := by decide +kernel
theorem dX8_row_43 : decode cX8_row 43 = .ok (.if_icmp .lt 11, 3) := by decide +kernel
theorem dX8_row_46 : decode cX8_row 46 = .ok (.aload_n 0, 1) := by decide +kernel
theorem dX8_row_47 : decode cX8_row 47 = .ok (.iconst 2, 1) := by decide +kernel
theorem dX8_row_48 : decode cX8_row 48 = .ok (.iconst 1, 1) := by decide +kernel
theorem dX8_row_49 : decode cX8_row 49 = .ok (.iconst 0, 1) := by decide +kernel
theorem dX8_row_50 : decode cX8_row 50 = .ok (.invokevirtual 135, 3) := by decide +kernel
theorem dX8_row_53 : decode cX8_row 53 = .ok (.ireturn, 1) := by decide +kernel
theorem dX8_row_54 : decode cX8_row 54 = .ok (.aload_n 0, 1) := by decide +kernel
theorem dX8_row_55 : decode cX8_row 55 = .ok (.iconst 5, 1) := by decide +kernel
theorem dX8_row_56 : decode cX8_row 56 = .ok (.invokevirtual 119, 3) := by decide +kernel
theorem dX8_row_59 : decode cX8_row 59 = .ok (.aload_n 0, 1) := by decide +kernel
theorem dX8_row_60 : decode cX8_row 60 = .ok (.iload_n 1, 1) := by decide +kernel
theorem dX8_row_61 : decode cX8_row 61 = .ok (.i2l, 1) := by decide +kernel
theorem dX8_row_62 : decode cX8_row 62 = .ok (.invokevirtual 127, 3) := by decide +kernel
theorem dX8_row_65 : decode cX8_row 65 = .ok (.aload_n 0, 1) := by decide +kernel
theorem dX8_row_66 : decode cX8_row 66 = .ok (.iload_n 2, 1) := by decide +kernel
theorem dX8_row_67 : decode cX8_row 67 = .ok (.i2l, 1) := by decide +kernel
theorem dX8_row_68 : decode cX8_row 68 = .ok (.invokevirtual 127, 3) := by decide +kernel
theorem dX8_row_71 : decode cX8_row 71 = .ok (.aload_n 0, 1) := by decide +kernel
theorem dX8_row_72 : decode cX8_row 72 = .ok (.aload_n 0, 1) := by decide +kernel
theorem dX8_row_73 : decode cX8_row 73 = .ok (.iload_n 2, 1) := by decide +kernel
theorem dX8_row_74 : decode cX8_row 74 = .ok (.invokevirtual 142, 3) := by decide +kernel
theorem dX8_row_77 : decode cX8_row 77 = .ok (.i2l, 1) := by decide +kernel
theorem dX8_row_78 : decode cX8_row 78 = .ok (.invokevirtual 127, 3) := by decide +kernel
theorem dX8_row_81 : decode cX8_row 81 = .ok (.iconst 0, 1) := by decide +kernel
theorem dX8_row_82 : decode cX8_row 82 = .ok (.istore_n 3, 1) := by decide +kernel
theorem dX8_row_83 : decode cX8_row 83 = .ok (.iload_n 3, 1) := by decide +kernel
theorem dX8_row_84 : decode cX8_row 84 = .ok (.iload_n 1, 1) := by decide +kernel
theorem dX8_row_85 : decode cX8_row 85 = .ok (.if_icmp .ge 19, 3) := by decide +kernel
theorem dX8_row_88 : decode cX8_row 88 = .ok (.aload_n 0, 1) := by decide +kernel
theorem dX8_row_89 : decode cX8_row 89 = .ok (.aload_n 0, 1) := by decide +kernel
theorem dX8_row_90 : decode cX8_row 90 = .ok (.iload_n 3, 1) := by decide +kernel
theorem dX8_row_91 : decode cX8_row 91 = .ok (.invokevirtual 142, 3) := by decide +kernel
theorem dX8_row_94 : decode cX8_row 94 = .ok (.i2l, 1) := by decide +kernel
theorem dX8_row_95 : decode cX8_row 95 = .ok (.invokevirtual 127, 3) := by decide +kernel
theorem dX8_row_98 : decode cX8_row 98 = .ok (.iinc 3 1, 3) := by decide +kernel
theorem dX8_row_101 : decode cX8_row 101 = .ok (.goto (-18), 3) := by decide +kernel
theorem dX8_row_104 : decode cX8_row 104 = .ok (.aload_n 0, 1) := by decide +kernel
theorem dX8_row_105 : decode cX8_row 105 = .ok (.invokevirtual 131, 3) := by decide +kernel
theorem dX8_row_108 : decode cX8_row 108 = .ok (.ireturn, 1) := by decide +kernel
theorem dX8_shelf_0 : decode cX8_shelf 0 = .ok (.aload_n 0, 1) := by decide +kernel
theorem dX8_shelf_1 : decode cX8_shelf 1 = .ok (.invokevirtual 116, 3) := by decide +kernel
theorem dX8_shelf_4 : decode cX8_shelf 4 = .ok (.iload_n 2, 1) := by decide +kernel
theorem dX8_shelf_5 : decode cX8_shelf 5 = .ok (.bipush 12, 2) := by decide +kernel
theorem dX8_shelf_7 : decode cX8_shelf 7 = .ok (.if_icmp .le 6, 3) := by decide +kernel
theorem dX8_shelf_10 : decode cX8_shelf 10 = .ok (.bipush (-2), 2) := by decide +kernel
theorem dX8_shelf_12 : decode cX8_shelf 12 = .ok (.ireturn, 1) := by decide +kernel
theorem dX8_shelf_13 : decode cX8_shelf 13 = .ok (.aload_n 0, 1) := by decide +kernel
theorem dX8_shelf_14 : decode cX8_shelf 14 = .ok (.getfield 83, 3) := by decide +kernel
theorem dX8_shelf_17 : decode cX8_shelf 17 = .ok (.bipush 60, 2) := by decide +kernel
theorem dX8_shelf_19 : decode cX8_shelf 19 = .ok (.if_icmp .ne 6, 3) := by decide +kernel
theorem dX8_shelf_22 : decode cX8_shelf 22 = .ok (.bipush (-3), 2) := by decide +kernel
theorem dX8_shelf_24 : decode cX8_shelf 24 = .ok (.ireturn, 1) := by decide +kernel
theorem dX8_shelf_25 : decode cX8_shelf 25 = .ok (.iload_n 2, 1) := by decide +kernel
theorem dX8_shelf_26 : decode cX8_shelf 26 = .ok (.ifCond .ge 11, 3) := by decide +kernel
theorem dX8_shelf_29 : decode cX8_shelf 29 = .ok (.aload_n 0, 1) := by decide +kernel
theorem dX8_shelf_30 : decode cX8_shelf 30 = .ok (.iconst 5, 1) := by decide +kernel
theorem dX8_shelf_31 : decode cX8_shelf 31 = .ok (.iconst 0, 1) := by decide +kernel
theorem dX8_shelf_32 : decode cX8_shelf 32 = .ok (.iconst 0, 1) := by decide +kernel
theorem dX8_shelf_33 : decode cX8_shelf 33 = .ok (.invokevirtual 135, 3) := by decide +kernel
theorem dX8_shelf_36 : decode cX8_shelf 36 = .ok (.ireturn, 1) := by decide +kernel
theorem dX8_shelf_37 : decode cX8_shelf 37 = .ok (.aload_n 0, 1) := by decide +kernel
theorem dX8_shelf_38 : decode cX8_shelf 38 = .ok (.bipush 6, 2) := by decide +kernel
theorem dX8_shelf_40 : decode cX8_shelf 40 = .ok (.invokevirtual 119, 3) := by decide +kernel
theorem dX8_shelf_43 : decode cX8_shelf 43 = .ok (.aload_n 0, 1) := by decide +kernel
theorem dX8_shelf_44 : decode cX8_shelf 44 = .ok (.getfield 30, 3) := by decide +kernel
theorem dX8_shelf_47 : decode cX8_shelf 47 = .ok (.aload_n 0, 1) := by decide +kernel
theorem dX8_shelf_48 : decode cX8_shelf 48 = .ok (.getfield 83, 3) := by decide +kernel
theorem dX8_shelf_51 : decode cX8_shelf 51 = .ok (.iload_n 1, 1) := by decide +kernel
theorem dX8_shelf_52 : decode cX8_shelf 52 = .ok (.bastore, 1) := by decide +kernel
theorem dX8_shelf_53 : decode cX8_shelf 53 = .ok (.aload_n 0, 1) := by decide +kernel
theorem dX8_shelf_54 : decode cX8_shelf 54 = .ok (.iload_n 2, 1) := by decide +kernel
theorem dX8_shelf_55 : decode cX8_shelf 55 = .ok (.i2l, 1) := by decide +kernel
theorem dX8_shelf_56 : decode cX8_shelf 56 = .ok (.invokevirtual 127, 3) := by decide +kernel
theorem dX8_shelf_59 : decode cX8_shelf 59 = .ok (.iconst 0, 1) := by decide +kernel
theorem dX8_shelf_60 : decode cX8_shelf 60 = .ok (.istore_n 3, 1) := by decide +kernel
theorem dX8_shelf_61 : decode cX8_shelf 61 = .ok (.iload_n 3, 1) := by decide +kernel
theorem dX8_shelf_62 : decode cX8_shelf 62 = .ok (.iload_n 2, 1) := by decide +kernel
theorem dX8_shelf_63 : decode cX8_shelf 63 = .ok (.if_icmp .ge 16, 3) := by decide +kernel
theorem dX8_shelf_66 : decode cX8_shelf 66 = .ok (.aload_n 0, 1) := by decide +kernel
theorem dX8_shelf_67 : decode cX8_shelf 67 = .ok (.ldc2_w 98, 3) := by decide +kernel
theorem dX8_shelf_70 : decode cX8_shelf 70 = .ok (.invokevirtual 127, 3) := by decide +kernel
theorem dX8_shelf_73 : decode cX8_shelf 73 = .ok (.iinc 3 1, 3) := by decide +kernel
theorem dX8_shelf_76 : decode cX8_shelf 76 = .ok (.goto (-15), 3) := by decide +kernel
theorem dX8_shelf_79 : decode cX8_shelf 79 = .ok (.aload_n 0, 1) := by decide +kernel
theorem dX8_shelf_80 : decode cX8_shelf 80 = .ok (.invokevirtual 131, 3) := by decide +kernel
theorem dX8_shelf_83 : decode cX8_shelf 83 = .ok (.ireturn, 1) := by decide +kernel
theorem dX8_hasPlace_0 : decode cX8_hasPlace 0 = .ok (.iload_n 2, 1) := by decide +kernel
theorem dX8_hasPlace_1 : decode cX8_hasPlace 1 = .ok (.ifCond .lt 19, 3) := by decide +kernel
theorem dX8_hasPlace_4 : decode cX8_hasPlace 4 = .ok (.iload_n 2, 1) := by decide +kernel
theorem dX8_hasPlace_5 : decode cX8_hasPlace 5 = .ok (.aload_n 0, 1) := by decide +kernel
theorem dX8_hasPlace_6 : decode cX8_hasPlace 6 = .ok (.getfield 23, 3) := by decide +kernel
theorem dX8_hasPlace_9 : decode cX8_hasPlace 9 = .ok (.iload_n 1, 1) := by decide +kernel
theorem dX8_hasPlace_10 : decode cX8_hasPlace 10 = .ok (.iaload, 1) := by decide +kernel
theorem dX8_hasPlace_11 : decode cX8_hasPlace 11 = .ok (.iconst 1, 1) := by decide +kernel
theorem dX8_hasPlace_12 : decode cX8_hasPlace 12 = .ok (.isub, 1) := by decide +kernel
theorem dX8_hasPlace_13 : decode cX8_hasPlace 13 = .ok (.if_icmp .ge 7, 3) := by decide +kernel
theorem dX8_hasPlace_16 : decode cX8_hasPlace 16 = .ok (.iconst 1, 1) := by decide +kernel
theorem dX8_hasPlace_17 : decode cX8_hasPlace 17 = .ok (.goto 4, 3) := by decide +kernel
theorem dX8_hasPlace_20 : decode cX8_hasPlace 20 = .ok (.iconst 0, 1) := by decide +kernel
theorem dX8_hasPlace_21 : decode cX8_hasPlace 21 = .ok (.ireturn, 1) := by decide +kernel
theorem dX8_set_0 : decode cX8_set 0 = .ok (.aload_n 0, 1) := by decide +kernel
theorem dX8_set_1 : decode cX8_set 1 = .ok (.invokevirtual 116, 3) := by decide +kernel
theorem dX8_set_4 : decode cX8_set 4 = .ok (.aload_n 0, 1) := by decide +kernel
theorem dX8_set_5 : decode cX8_set 5 = .ok (.iload_n 1, 1) := by decide +kernel
theorem dX8_set_6 : decode cX8_set 6 = .ok (.invokevirtual 139, 3) := by decide +kernel
theorem dX8_set_9 : decode cX8_set 9 = .ok (.ifCond .eq 16, 3) := by decide +kernel
theorem dX8_set_12 : decode cX8_set 12 = .ok (.iload_n 3, 1) := by decide +kernel
theorem dX8_set_13 : decode cX8_set 13 = .ok (.iconst (-1), 1) := by decide +kernel
theorem dX8_set_14 : decode cX8_set 14 = .ok (.if_icmp .eq 14, 3) := by decide +kernel
theorem dX8_set_17 : decode cX8_set 17 = .ok (.aload_n 0, 1) := by decide +kernel
theorem dX8_set_18 : decode cX8_set 18 = .ok (.iload_n 3, 1) := by decide +kernel
theorem dX8_set_19 : decode cX8_set 19 = .ok (.invokevirtual 139, 3) := by decide +kernel
theorem dX8_set_22 : decode cX8_set 22 = .ok (.ifCond .ne 6, 3) := by decide +kernel
theorem dX8_set_25 : decode cX8_set 25 = .ok (.bipush (-2), 2) := by decide +kernel
theorem dX8_set_27 : decode cX8_set 27 = .ok (.ireturn, 1) := by decide +kernel
theorem dX8_set_28 : decode cX8_set 28 = .ok (.aload_n 0, 1) := by decide +kernel
theorem dX8_set_29 : decode cX8_set 29 = .ok (.getfield 20, 3) := by decide +kernel
theorem dX8_set_32 : decode cX8_set 32 = .ok (.iload_n 1, 1) := by decide +kernel
theorem dX8_set_33 : decode cX8_set 33 = .ok (.iaload, 1) := by decide +kernel
theorem dX8_set_34 : decode cX8_set 34 = .ok (.bipush 6, 2) := by decide +kernel
theorem dX8_set_36 : decode cX8_set 36 = .ok (.if_icmp .ne 28, 3) := by decide +kernel
theorem dX8_set_39 : decode cX8_set 39 = .ok (.iload_n 3, 1) := by decide +kernel
theorem dX8_set_40 : decode cX8_set 40 = .ok (.iconst (-1), 1) := by decide +kernel
theorem dX8_set_41 : decode cX8_set 41 = .ok (.if_icmp .eq 31, 3) := by decide +kernel
theorem dX8_set_44 : decode cX8_set 44 = .ok (.aload_n 0, 1) := by decide +kernel
theorem dX8_set_45 : decode cX8_set 45 = .ok (.getfield 20, 3) := by decide +kernel
theorem dX8_set_48 : decode cX8_set 48 = .ok (.iload_n 3, 1) := by decide +kernel
theorem dX8_set_49 : decode cX8_set 49 = .ok (.iaload, 1) := by decide +kernel
theorem dX8_set_50 : decode cX8_set 50 = .ok (.iconst 1, 1) := by decide +kernel
theorem dX8_set_51 : decode cX8_set 51 = .ok (.if_icmp .eq 21, 3) := by decide +kernel
theorem dX8_set_54 : decode cX8_set 54 = .ok (.aload_n 0, 1) := by decide +kernel
theorem dX8_set_55 : decode cX8_set 55 = .ok (.getfield 20, 3) := by decide +kernel
theorem dX8_set_58 : decode cX8_set 58 = .ok (.iload_n 3, 1) := by decide +kernel
theorem dX8_set_59 : decode cX8_set 59 = .ok (.iaload, 1) := by decide +kernel
theorem dX8_set_60 : decode cX8_set 60 = .ok (.iconst 2, 1) := by decide +kernel
theorem dX8_set_61 : decode cX8_set 61 = .ok (.if_icmp .eq 11, 3) := by decide +kernel
theorem dX8_set_64 : decode cX8_set 64 = .ok (.aload_n 0, 1) := by decide +kernel
theorem dX8_set_65 : decode cX8_set 65 = .ok (.iconst 3, 1) := by decide +kernel
theorem dX8_set_66 : decode cX8_set 66 = .ok (.iconst (-1), 1) := by decide +kernel
theorem dX8_set_67 : decode cX8_set 67 = .ok (.iconst 0, 1) := by decide +kernel
theorem dX8_set_68 : decode cX8_set 68 = .ok (.invokevirtual 135, 3) := by decide +kernel
theorem dX8_set_71 : decode cX8_set 71 = .ok (.ireturn, 1) := by decide +kernel
theorem dX8_set_72 : decode cX8_set 72 = .ok (.aload_n 0, 1) := by decide +kernel
theorem dX8_set_73 : decode cX8_set 73 = .ok (.iload_n 1, 1) := by decide +kernel
theorem dX8_set_74 : decode cX8_set 74 = .ok (.iload_n 2, 1) := by decide +kernel
theorem dX8_set_75 : decode cX8_set 75 = .ok (.invokevirtual 145, 3) := by decide +kernel
theorem dX8_set_78 : decode cX8_set 78 = .ok (.ifCond .ne 11, 3) := by decide +kernel
theorem dX8_set_81 : decode cX8_set 81 = .ok (.aload_n 0, 1) := by decide +kernel
theorem dX8_set_82 : decode cX8_set 82 = .ok (.iconst 2, 1) := by decide +kernel
theorem dX8_set_83 : decode cX8_set 83 = .ok (.iconst (-1), 1) := by decide +kernel
theorem dX8_set_84 : decode cX8_set 84 = .ok (.iconst 0, 1) := by decide +kernel
theorem dX8_set_85 : decode cX8_set 85 = .ok (.invokevirtual 135, 3) := by decide +kernel
theorem dX8_set_88 : decode cX8_set 88 = .ok (.ireturn, 1) := by decide +kernel
theorem dX8_set_89 : decode cX8_set 89 = .ok (.aload_n 0, 1) := by decide +kernel
theorem dX8_set_90 : decode cX8_set 90 = .ok (.getfield 30, 3) := by decide +kernel
theorem dX8_set_93 : decode cX8_set 93 = .ok (.iload_n 1, 1) := by decide +kernel
theorem dX8_set_94 : decode cX8_set 94 = .ok (.baload, 1) := by decide +kernel
theorem dX8_set_95 : decode cX8_set 95 = .ok (.ifCond .eq 26, 3) := by decide +kernel
theorem dX8_set_98 : decode cX8_set 98 = .ok (.iload_n 3, 1) := by decide +kernel
theorem dX8_set_99 : decode cX8_set 99 = .ok (.iconst (-1), 1) := by decide +kernel
theorem dX8_set_100 : decode cX8_set 100 = .ok (.if_icmp .eq 21, 3) := by decide +kernel
theorem dX8_set_103 : decode cX8_set 103 = .ok (.aload_n 0, 1) := by decide +kernel
theorem dX8_set_104 : decode cX8_set 104 = .ok (.getfield 20, 3) := by decide +kernel
theorem dX8_set_107 : decode cX8_set 107 = .ok (.iload_n 3, 1) := by decide +kernel
theorem dX8_set_108 : decode cX8_set 108 = .ok (.iaload, 1) := by decide +kernel
theorem dX8_set_109 : decode cX8_set 109 = .ok (.iconst 2, 1) := by decide +kernel
theorem dX8_set_110 : decode cX8_set 110 = .ok (.if_icmp .eq 11, 3) := by decide +kernel
theorem dX8_set_113 : decode cX8_set 113 = .ok (.aload_n 0, 1) := by decide +kernel
theorem dX8_set_114 : decode cX8_set 114 = .ok (.iconst 4, 1) := by decide +kernel
theorem dX8_set_115 : decode cX8_set 115 = .ok (.iconst (-1), 1) := by decide +kernel
theorem dX8_set_116 : decode cX8_set 116 = .ok (.iconst 0, 1) := by decide +kernel
theorem dX8_set_117 : decode cX8_set 117 = .ok (.invokevirtual 135, 3) := by decide +kernel
theorem dX8_set_120 : decode cX8_set 120 = .ok (.ireturn, 1) := by decide +kernel
theorem dX8_set_121 : decode cX8_set 121 = .ok (.aload_n 0, 1) := by decide +kernel
theorem dX8_set_122 : decode cX8_set 122 = .ok (.getfield 26, 3) := by decide +kernel
theorem dX8_set_125 : decode cX8_set 125 = .ok (.bipush 16, 2) := by decide +kernel
theorem dX8_set_127 : decode cX8_set 127 = .ok (.iload_n 1, 1) := by decide +kernel
theorem dX8_set_128 : decode cX8_set 128 = .ok (.imul, 1) := by decide +kernel
theorem dX8_set_129 : decode cX8_set 129 = .ok (.iconst 1, 1) := by decide +kernel
theorem dX8_set_130 : decode cX8_set 130 = .ok (.iadd, 1) := by decide +kernel
theorem dX8_set_131 : decode cX8_set 131 = .ok (.iload_n 2, 1) := by decide +kernel
theorem dX8_set_132 : decode cX8_set 132 = .ok (.iadd, 1) := by decide +kernel
theorem dX8_set_133 : decode cX8_set 133 = .ok (.iload_n 3, 1) := by decide +kernel
theorem dX8_set_134 : decode cX8_set 134 = .ok (.i2l, 1) := by decide +kernel
theorem dX8_set_135 : decode cX8_set 135 = .ok (.lastore, 1) := by decide +kernel
theorem dX8_set_136 : decode cX8_set 136 = .ok (.iconst 1, 1) := by decide +kernel
theorem dX8_set_137 : decode cX8_set 137 = .ok (.ireturn, 1) := by decide +kernel
theorem dX8_at__0 : decode cX8_at_ 0 = .ok (.aload_n 0, 1) := by decide +kernel
theorem dX8_at__1 : decode cX8_at_ 1 = .ok (.invokevirtual 116, 3) := by decide +kernel
theorem dX8_at__4 : decode cX8_at_ 4 = .ok (.aload_n 0, 1) := by decide +kernel
theorem dX8_at__5 : decode cX8_at_ 5 = .ok (.iload_n 1, 1) := by decide +kernel
theorem dX8_at__6 : decode cX8_at_ 6 = .ok (.invokevirtual 139, 3) := by decide +kernel
theorem dX8_at__9 : decode cX8_at_ 9 = .ok (.ifCond .ne 6, 3) := by decide +kernel
theorem dX8_at__12 : decode cX8_at_ 12 = .ok (.bipush (-2), 2) := by decide +kernel
theorem dX8_at__14 : decode cX8_at_ 14 = .ok (.ireturn, 1) := by decide +kernel
theorem dX8_at__15 : decode cX8_at_ 15 = .ok (.aload_n 0, 1) := by decide +kernel
theorem dX8_at__16 : decode cX8_at_ 16 = .ok (.getfield 20, 3) := by decide +kernel
theorem dX8_at__19 : decode cX8_at_ 19 = .ok (.iload_n 1, 1) := by decide +kernel
theorem dX8_at__20 : decode cX8_at_ 20 = .ok (.iaload, 1) := by decide +kernel
theorem dX8_at__21 : decode cX8_at_ 21 = .ok (.bipush 6, 2) := by decide +kernel
theorem dX8_at__23 : decode cX8_at_ 23 = .ok (.if_icmp .eq 11, 3) := by decide +kernel
theorem dX8_at__26 : decode cX8_at_ 26 = .ok (.aload_n 0, 1) := by decide +kernel
theorem dX8_at__27 : decode cX8_at_ 27 = .ok (.iconst 3, 1) := by decide +kernel
theorem dX8_at__28 : decode cX8_at_ 28 = .ok (.iconst (-1), 1) := by decide +kernel
theorem dX8_at__29 : decode cX8_at_ 29 = .ok (.iconst 0, 1) := by decide +kernel
theorem dX8_at__30 : decode cX8_at_ 30 = .ok (.invokevirtual 135, 3) := by decide +kernel
theorem dX8_at__33 : decode cX8_at_ 33 = .ok (.ireturn, 1) := by decide +kernel
theorem dX8_at__34 : decode cX8_at_ 34 = .ok (.aload_n 0, 1) := by decide +kernel
theorem dX8_at__35 : decode cX8_at_ 35 = .ok (.iload_n 1, 1) := by decide +kernel
theorem dX8_at__36 : decode cX8_at_ 36 = .ok (.iload_n 2, 1) := by decide +kernel
theorem dX8_at__37 : decode cX8_at_ 37 = .ok (.invokevirtual 145, 3) := by decide +kernel
theorem dX8_at__40 : decode cX8_at_ 40 = .ok (.ifCond .ne 11, 3) := by decide +kernel
theorem dX8_at__43 : decode cX8_at_ 43 = .ok (.aload_n 0, 1) := by decide +kernel
theorem dX8_at__44 : decode cX8_at_ 44 = .ok (.iconst 2, 1) := by decide +kernel
theorem dX8_at__45 : decode cX8_at_ 45 = .ok (.iconst (-1), 1) := by decide +kernel
theorem dX8_at__46 : decode cX8_at_ 46 = .ok (.iconst 0, 1) := by decide +kernel
theorem dX8_at__47 : decode cX8_at_ 47 = .ok (.invokevirtual 135, 3) := by decide +kernel
theorem dX8_at__50 : decode cX8_at_ 50 = .ok (.ireturn, 1) := by decide +kernel
theorem dX8_at__51 : decode cX8_at_ 51 = .ok (.aload_n 0, 1) := by decide +kernel
theorem dX8_at__52 : decode cX8_at_ 52 = .ok (.iload_n 1, 1) := by decide +kernel
theorem dX8_at__53 : decode cX8_at_ 53 = .ok (.iconst 1, 1) := by decide +kernel
theorem dX8_at__54 : decode cX8_at_ 54 = .ok (.iload_n 2, 1) := by decide +kernel
theorem dX8_at__55 : decode cX8_at_ 55 = .ok (.iadd, 1) := by decide +kernel
theorem dX8_at__56 : decode cX8_at_ 56 = .ok (.invokevirtual 90, 3) := by decide +kernel
theorem dX8_at__59 : decode cX8_at_ 59 = .ok (.l2i, 1) := by decide +kernel
theorem dX8_at__60 : decode cX8_at_ 60 = .ok (.ireturn, 1) := by decide +kernel
theorem dX8_kind_0 : decode cX8_kind 0 = .ok (.aload_n 0, 1) := by decide +kernel
theorem dX8_kind_1 : decode cX8_kind 1 = .ok (.iload_n 1, 1) := by decide +kernel
theorem dX8_kind_2 : decode cX8_kind 2 = .ok (.invokevirtual 139, 3) := by decide +kernel
theorem dX8_kind_5 : decode cX8_kind 5 = .ok (.ifCond .eq 12, 3) := by decide +kernel
theorem dX8_kind_8 : decode cX8_kind 8 = .ok (.aload_n 0, 1) := by decide +kernel
theorem dX8_kind_9 : decode cX8_kind 9 = .ok (.getfield 20, 3) := by decide +kernel
theorem dX8_kind_12 : decode cX8_kind 12 = .ok (.iload_n 1, 1) := by decide +kernel
theorem dX8_kind_13 : decode cX8_kind 13 = .ok (.iaload, 1) := by decide +kernel
theorem dX8_kind_14 : decode cX8_kind 14 = .ok (.goto 5, 3) := by decide +kernel
theorem dX8_kind_17 : decode cX8_kind 17 = .ok (.bipush (-2), 2) := by decide +kernel
theorem dX8_kind_19 : decode cX8_kind 19 = .ok (.ireturn, 1) := by decide +kernel
theorem dX8_parts_0 : decode cX8_parts 0 = .ok (.aload_n 0, 1) := by decide +kernel
theorem dX8_parts_1 : decode cX8_parts 1 = .ok (.iload_n 1, 1) := by decide +kernel
theorem dX8_parts_2 : decode cX8_parts 2 = .ok (.invokevirtual 139, 3) := by decide +kernel
theorem dX8_parts_5 : decode cX8_parts 5 = .ok (.ifCond .eq 12, 3) := by decide +kernel
theorem dX8_parts_8 : decode cX8_parts 8 = .ok (.aload_n 0, 1) := by decide +kernel
theorem dX8_parts_9 : decode cX8_parts 9 = .ok (.getfield 23, 3) := by decide +kernel
theorem dX8_parts_12 : decode cX8_parts 12 = .ok (.iload_n 1, 1) := by decide +kernel
theorem dX8_parts_13 : decode cX8_parts 13 = .ok (.iaload, 1) := by decide +kernel
theorem dX8_parts_14 : decode cX8_parts 14 = .ok (.goto 5, 3) := by decide +kernel
theorem dX8_parts_17 : decode cX8_parts 17 = .ok (.bipush (-2), 2) := by decide +kernel
theorem dX8_parts_19 : decode cX8_parts 19 = .ok (.ireturn, 1) := by decide +kernel
theorem dX8_part__0 : decode cX8_part_ 0 = .ok (.aload_n 0, 1) := by decide +kernel
theorem dX8_part__1 : decode cX8_part_ 1 = .ok (.iload_n 1, 1) := by decide +kernel
theorem dX8_part__2 : decode cX8_part_ 2 = .ok (.invokevirtual 139, 3) := by decide +kernel
theorem dX8_part__5 : decode cX8_part_ 5 = .ok (.ifCond .eq 15, 3) := by decide +kernel
theorem dX8_part__8 : decode cX8_part_ 8 = .ok (.aload_n 0, 1) := by decide +kernel
theorem dX8_part__9 : decode cX8_part_ 9 = .ok (.iload_n 1, 1) := by decide +kernel
theorem dX8_part__10 : decode cX8_part_ 10 = .ok (.iload_n 2, 1) := by decide +kernel
theorem dX8_part__11 : decode cX8_part_ 11 = .ok (.ldc2_w 149, 3) := by decide +kernel
theorem dX8_part__14 : decode cX8_part_ 14 = .ok (.invokevirtual 151, 3) := by decide +kernel
theorem dX8_part__17 : decode cX8_part_ 17 = .ok (.goto 6, 3) := by decide +kernel
theorem dX8_part__20 : decode cX8_part_ 20 = .ok (.ldc2_w 149, 3) := by decide +kernel
theorem dX8_part__23 : decode cX8_part_ 23 = .ok (.lreturn, 1) := by decide +kernel
theorem dX8_heavyOf_0 : decode cX8_heavyOf 0 = .ok (.ldc2_w 155, 3) := by decide +kernel
theorem dX8_heavyOf_3 : decode cX8_heavyOf 3 = .ok (.aload_n 0, 1) := by decide +kernel
theorem dX8_heavyOf_4 : decode cX8_heavyOf 4 = .ok (.getfield 40, 3) := by decide +kernel
theorem dX8_heavyOf_7 : decode cX8_heavyOf 7 = .ok (.iload_n 1, 1) := by decide +kernel
theorem dX8_heavyOf_8 : decode cX8_heavyOf 8 = .ok (.laload, 1) := by decide +kernel
theorem dX8_heavyOf_9 : decode cX8_heavyOf 9 = .ok (.lmul, 1) := by decide +kernel
theorem dX8_heavyOf_10 : decode cX8_heavyOf 10 = .ok (.lconst 1, 1) := by decide +kernel
theorem dX8_heavyOf_11 : decode cX8_heavyOf 11 = .ok (.ladd, 1) := by decide +kernel
theorem dX8_heavyOf_12 : decode cX8_heavyOf 12 = .ok (.lstore_n 2, 1) := by decide +kernel
theorem dX8_heavyOf_13 : decode cX8_heavyOf 13 = .ok (.aload_n 0, 1) := by decide +kernel
theorem dX8_heavyOf_14 : decode cX8_heavyOf 14 = .ok (.getfield 20, 3) := by decide +kernel
theorem dX8_heavyOf_17 : decode cX8_heavyOf 17 = .ok (.iload_n 1, 1) := by decide +kernel
theorem dX8_heavyOf_18 : decode cX8_heavyOf 18 = .ok (.iaload, 1) := by decide +kernel
theorem dX8_heavyOf_19 : decode cX8_heavyOf 19 = .ok (.iconst 4, 1) := by decide +kernel
theorem dX8_heavyOf_20 : decode cX8_heavyOf 20 = .ok (.if_icmp .ne 12, 3) := by decide +kernel
theorem dX8_heavyOf_23 : decode cX8_heavyOf 23 = .ok (.aload_n 0, 1) := by decide +kernel
theorem dX8_heavyOf_24 : decode cX8_heavyOf 24 = .ok (.getfield 40, 3) := by decide +kernel
theorem dX8_heavyOf_27 : decode cX8_heavyOf 27 = .ok (.iload_n 1, 1) := by decide +kernel
theorem dX8_heavyOf_28 : decode cX8_heavyOf 28 = .ok (.laload, 1) := by decide +kernel
theorem dX8_heavyOf_29 : decode cX8_heavyOf 29 = .ok (.goto 32, 3) := by decide +kernel
theorem dX8_heavyOf_32 : decode cX8_heavyOf 32 = .ok (.aload_n 0, 1) := by decide +kernel
theorem dX8_heavyOf_33 : decode cX8_heavyOf 33 = .ok (.getfield 20, 3) := by decide +kernel
theorem dX8_heavyOf_36 : decode cX8_heavyOf 36 = .ok (.iload_n 1, 1) := by decide +kernel
theorem dX8_heavyOf_37 : decode cX8_heavyOf 37 = .ok (.iaload, 1) := by decide +kernel
theorem dX8_heavyOf_38 : decode cX8_heavyOf 38 = .ok (.iconst 1, 1) := by decide +kernel
theorem dX8_heavyOf_39 : decode cX8_heavyOf 39 = .ok (.if_icmp .eq 13, 3) := by decide +kernel
theorem dX8_heavyOf_42 : decode cX8_heavyOf 42 = .ok (.aload_n 0, 1) := by decide +kernel
theorem dX8_heavyOf_43 : decode cX8_heavyOf 43 = .ok (.getfield 20, 3) := by decide +kernel
theorem dX8_heavyOf_46 : decode cX8_heavyOf 46 = .ok (.iload_n 1, 1) := by decide +kernel
theorem dX8_heavyOf_47 : decode cX8_heavyOf 47 = .ok (.iaload, 1) := by decide +kernel
theorem dX8_heavyOf_48 : decode cX8_heavyOf 48 = .ok (.iconst 2, 1) := by decide +kernel
theorem dX8_heavyOf_49 : decode cX8_heavyOf 49 = .ok (.if_icmp .ne 11, 3) := by decide +kernel
theorem dX8_heavyOf_52 : decode cX8_heavyOf 52 = .ok (.ldc2_w 157, 3) := by decide +kernel
theorem dX8_heavyOf_55 : decode cX8_heavyOf 55 = .ok (.lload_n 2, 1) := by decide +kernel
theorem dX8_heavyOf_56 : decode cX8_heavyOf 56 = .ok (.lmul, 1) := by decide +kernel
theorem dX8_heavyOf_57 : decode cX8_heavyOf 57 = .ok (.goto 4, 3) := by decide +kernel
theorem dX8_heavyOf_60 : decode cX8_heavyOf 60 = .ok (.lload_n 2, 1) := by decide +kernel
theorem dX8_heavyOf_61 : decode cX8_heavyOf 61 = .ok (.lreturn, 1) := by decide +kernel
theorem dX8_weightOf_0 : decode cX8_weightOf 0 = .ok (.aload_n 0, 1) := by decide +kernel
theorem dX8_weightOf_1 : decode cX8_weightOf 1 = .ok (.getfield 20, 3) := by decide +kernel
theorem dX8_weightOf_4 : decode cX8_weightOf 4 = .ok (.iload_n 1, 1) := by decide +kernel
theorem dX8_weightOf_5 : decode cX8_weightOf 5 = .ok (.iaload, 1) := by decide +kernel
theorem dX8_weightOf_6 : decode cX8_weightOf 6 = .ok (.tableswitch 147 0 5 #[38, 40, 56, 94, 101, 140], 38) := by decide +kernel
theorem dX8_weightOf_44 : decode cX8_weightOf 44 = .ok (.lconst 1, 1) := by decide +kernel
theorem dX8_weightOf_45 : decode cX8_weightOf 45 = .ok (.lreturn, 1) := by decide +kernel
theorem dX8_weightOf_46 : decode cX8_weightOf 46 = .ok (.aload_n 0, 1) := by decide +kernel
theorem dX8_weightOf_47 : decode cX8_weightOf 47 = .ok (.iload_n 1, 1) := by decide +kernel
theorem dX8_weightOf_48 : decode cX8_weightOf 48 = .ok (.iconst 1, 1) := by decide +kernel
theorem dX8_weightOf_49 : decode cX8_weightOf 49 = .ok (.invokevirtual 90, 3) := by decide +kernel
theorem dX8_weightOf_52 : decode cX8_weightOf 52 = .ok (.aload_n 0, 1) := by decide +kernel
theorem dX8_weightOf_53 : decode cX8_weightOf 53 = .ok (.iload_n 1, 1) := by decide +kernel
theorem dX8_weightOf_54 : decode cX8_weightOf 54 = .ok (.iconst 0, 1) := by decide +kernel
theorem dX8_weightOf_55 : decode cX8_weightOf 55 = .ok (.invokevirtual 90, 3) := by decide +kernel
theorem dX8_weightOf_58 : decode cX8_weightOf 58 = .ok (.lsub, 1) := by decide +kernel
theorem dX8_weightOf_59 : decode cX8_weightOf 59 = .ok (.lconst 1, 1) := by decide +kernel
theorem dX8_weightOf_60 : decode cX8_weightOf 60 = .ok (.ladd, 1) := by decide +kernel
theorem dX8_weightOf_61 : decode cX8_weightOf 61 = .ok (.lreturn, 1) := by decide +kernel
theorem dX8_weightOf_62 : decode cX8_weightOf 62 = .ok (.aload_n 0, 1) := by decide +kernel
theorem dX8_weightOf_63 : decode cX8_weightOf 63 = .ok (.iload_n 1, 1) := by decide +kernel
theorem dX8_weightOf_64 : decode cX8_weightOf 64 = .ok (.iconst 2, 1) := by decide +kernel
theorem dX8_weightOf_65 : decode cX8_weightOf 65 = .ok (.invokevirtual 90, 3) := by decide +kernel
theorem dX8_weightOf_68 : decode cX8_weightOf 68 = .ok (.lstore_n 2, 1) := by decide +kernel
theorem dX8_weightOf_69 : decode cX8_weightOf 69 = .ok (.aload_n 0, 1) := by decide +kernel
theorem dX8_weightOf_70 : decode cX8_weightOf 70 = .ok (.iload_n 1, 1) := by decide +kernel
theorem dX8_weightOf_71 : decode cX8_weightOf 71 = .ok (.iconst 1, 1) := by decide +kernel
theorem dX8_weightOf_72 : decode cX8_weightOf 72 = .ok (.invokevirtual 90, 3) := by decide +kernel
theorem dX8_weightOf_75 : decode cX8_weightOf 75 = .ok (.aload_n 0, 1) := by decide +kernel
theorem dX8_weightOf_76 : decode cX8_weightOf 76 = .ok (.iload_n 1, 1) := by decide +kernel
theorem dX8_weightOf_77 : decode cX8_weightOf 77 = .ok (.iconst 0, 1) := by decide +kernel
theorem dX8_weightOf_78 : decode cX8_weightOf 78 = .ok (.invokevirtual 90, 3) := by decide +kernel
theorem dX8_weightOf_81 : decode cX8_weightOf 81 = .ok (.lsub, 1) := by decide +kernel
theorem dX8_weightOf_82 : decode cX8_weightOf 82 = .ok (.lconst 1, 1) := by decide +kernel
theorem dX8_weightOf_83 : decode cX8_weightOf 83 = .ok (.ladd, 1) := by decide +kernel
theorem dX8_weightOf_84 : decode cX8_weightOf 84 = .ok (.lload_n 2, 1) := by decide +kernel
theorem dX8_weightOf_85 : decode cX8_weightOf 85 = .ok (.lconst 0, 1) := by decide +kernel
theorem dX8_weightOf_86 : decode cX8_weightOf 86 = .ok (.lcmp, 1) := by decide +kernel
theorem dX8_weightOf_87 : decode cX8_weightOf 87 = .ok (.ifCond .ge 8, 3) := by decide +kernel
theorem dX8_weightOf_90 : decode cX8_weightOf 90 = .ok (.lload_n 2, 1) := by decide +kernel
theorem dX8_weightOf_91 : decode cX8_weightOf 91 = .ok (.lneg, 1) := by decide +kernel
theorem dX8_weightOf_92 : decode cX8_weightOf 92 = .ok (.goto 4, 3) := by decide +kernel
theorem dX8_weightOf_95 : decode cX8_weightOf 95 = .ok (.lload_n 2, 1) := by decide +kernel
theorem dX8_weightOf_96 : decode cX8_weightOf 96 = .ok (.ldiv, 1) := by decide +kernel
theorem dX8_weightOf_97 : decode cX8_weightOf 97 = .ok (.lconst 1, 1) := by decide +kernel
theorem dX8_weightOf_98 : decode cX8_weightOf 98 = .ok (.ladd, 1) := by decide +kernel
theorem dX8_weightOf_99 : decode cX8_weightOf 99 = .ok (.lreturn, 1) := by decide +kernel
theorem dX8_weightOf_100 : decode cX8_weightOf 100 = .ok (.aload_n 0, 1) := by decide +kernel
theorem dX8_weightOf_101 : decode cX8_weightOf 101 = .ok (.iload_n 1, 1) := by decide +kernel
theorem dX8_weightOf_102 : decode cX8_weightOf 102 = .ok (.iconst 2, 1) := by decide +kernel
theorem dX8_weightOf_103 : decode cX8_weightOf 103 = .ok (.invokevirtual 90, 3) := by decide +kernel
theorem dX8_weightOf_106 : decode cX8_weightOf 106 = .ok (.lreturn, 1) := by decide +kernel
theorem dX8_weightOf_107 : decode cX8_weightOf 107 = .ok (.aload_n 0, 1) := by decide +kernel
theorem dX8_weightOf_108 : decode cX8_weightOf 108 = .ok (.iload_n 1, 1) := by decide +kernel
theorem dX8_weightOf_109 : decode cX8_weightOf 109 = .ok (.iconst 1, 1) := by decide +kernel
theorem dX8_weightOf_110 : decode cX8_weightOf 110 = .ok (.invokevirtual 90, 3) := by decide +kernel
theorem dX8_weightOf_113 : decode cX8_weightOf 113 = .ok (.l2i, 1) := by decide +kernel
theorem dX8_weightOf_114 : decode cX8_weightOf 114 = .ok (.istore 4, 2) := by decide +kernel
theorem dX8_weightOf_116 : decode cX8_weightOf 116 = .ok (.aload_n 0, 1) := by decide +kernel
theorem dX8_weightOf_117 : decode cX8_weightOf 117 = .ok (.aload_n 0, 1) := by decide +kernel
theorem dX8_weightOf_118 : decode cX8_weightOf 118 = .ok (.iload_n 1, 1) := by decide +kernel
theorem dX8_weightOf_119 : decode cX8_weightOf 119 = .ok (.iconst 0, 1) := by decide +kernel
theorem dX8_weightOf_120 : decode cX8_weightOf 120 = .ok (.invokevirtual 90, 3) := by decide +kernel
theorem dX8_weightOf_123 : decode cX8_weightOf 123 = .ok (.l2i, 1) := by decide +kernel
theorem dX8_weightOf_124 : decode cX8_weightOf 124 = .ok (.invokevirtual 159, 3) := by decide +kernel
theorem dX8_weightOf_127 : decode cX8_weightOf 127 = .ok (.iload 4, 2) := by decide +kernel
theorem dX8_weightOf_129 : decode cX8_weightOf 129 = .ok (.iconst (-1), 1) := by decide +kernel
theorem dX8_weightOf_130 : decode cX8_weightOf 130 = .ok (.if_icmp .ne 7, 3) := by decide +kernel
theorem dX8_weightOf_133 : decode cX8_weightOf 133 = .ok (.lconst 0, 1) := by decide +kernel
theorem dX8_weightOf_134 : decode cX8_weightOf 134 = .ok (.goto 10, 3) := by decide +kernel
theorem dX8_weightOf_137 : decode cX8_weightOf 137 = .ok (.aload_n 0, 1) := by decide +kernel
theorem dX8_weightOf_138 : decode cX8_weightOf 138 = .ok (.getfield 40, 3) := by decide +kernel
theorem dX8_weightOf_141 : decode cX8_weightOf 141 = .ok (.iload 4, 2) := by decide +kernel
theorem dX8_weightOf_143 : decode cX8_weightOf 143 = .ok (.laload, 1) := by decide +kernel
theorem dX8_weightOf_144 : decode cX8_weightOf 144 = .ok (.ladd, 1) := by decide +kernel
theorem dX8_weightOf_145 : decode cX8_weightOf 145 = .ok (.lreturn, 1) := by decide +kernel
theorem dX8_weightOf_146 : decode cX8_weightOf 146 = .ok (.aload_n 0, 1) := by decide +kernel
theorem dX8_weightOf_147 : decode cX8_weightOf 147 = .ok (.iload_n 1, 1) := by decide +kernel
theorem dX8_weightOf_148 : decode cX8_weightOf 148 = .ok (.iconst 2, 1) := by decide +kernel
theorem dX8_weightOf_149 : decode cX8_weightOf 149 = .ok (.invokevirtual 90, 3) := by decide +kernel
theorem dX8_weightOf_152 : decode cX8_weightOf 152 = .ok (.lreturn, 1) := by decide +kernel
theorem dX8_weightOf_153 : decode cX8_weightOf 153 = .ok (.lconst 0, 1) := by decide +kernel
theorem dX8_weightOf_154 : decode cX8_weightOf 154 = .ok (.lstore 5, 2) := by decide +kernel
theorem dX8_weightOf_156 : decode cX8_weightOf 156 = .ok (.iconst 1, 1) := by decide +kernel
theorem dX8_weightOf_157 : decode cX8_weightOf 157 = .ok (.istore 7, 2) := by decide +kernel
theorem dX8_weightOf_159 : decode cX8_weightOf 159 = .ok (.iload 7, 2) := by decide +kernel
theorem dX8_weightOf_161 : decode cX8_weightOf 161 = .ok (.aload_n 0, 1) := by decide +kernel
theorem dX8_weightOf_162 : decode cX8_weightOf 162 = .ok (.getfield 23, 3) := by decide +kernel
theorem dX8_weightOf_165 : decode cX8_weightOf 165 = .ok (.iload_n 1, 1) := by decide +kernel
theorem dX8_weightOf_166 : decode cX8_weightOf 166 = .ok (.iaload, 1) := by decide +kernel
theorem dX8_weightOf_167 : decode cX8_weightOf 167 = .ok (.if_icmp .ge 33, 3) := by decide +kernel
theorem dX8_weightOf_170 : decode cX8_weightOf 170 = .ok (.lload 5, 2) := by decide +kernel
theorem dX8_weightOf_172 : decode cX8_weightOf 172 = .ok (.aload_n 0, 1) := by decide +kernel
theorem dX8_weightOf_173 : decode cX8_weightOf 173 = .ok (.iload_n 1, 1) := by decide +kernel
theorem dX8_weightOf_174 : decode cX8_weightOf 174 = .ok (.iload 7, 2) := by decide +kernel
theorem dX8_weightOf_176 : decode cX8_weightOf 176 = .ok (.invokevirtual 90, 3) := by decide +kernel
theorem dX8_weightOf_179 : decode cX8_weightOf 179 = .ok (.ldc2_w 98, 3) := by decide +kernel
theorem dX8_weightOf_182 : decode cX8_weightOf 182 = .ok (.lcmp, 1) := by decide +kernel
theorem dX8_weightOf_183 : decode cX8_weightOf 183 = .ok (.ifCond .ne 7, 3) := by decide +kernel
theorem dX8_weightOf_186 : decode cX8_weightOf 186 = .ok (.lconst 0, 1) := by decide +kernel
theorem dX8_weightOf_187 : decode cX8_weightOf 187 = .ok (.goto 4, 3) := by decide +kernel
theorem dX8_weightOf_190 : decode cX8_weightOf 190 = .ok (.lconst 1, 1) := by decide +kernel
theorem dX8_weightOf_191 : decode cX8_weightOf 191 = .ok (.ladd, 1) := by decide +kernel
theorem dX8_weightOf_192 : decode cX8_weightOf 192 = .ok (.lstore 5, 2) := by decide +kernel
theorem dX8_weightOf_194 : decode cX8_weightOf 194 = .ok (.iinc 7 1, 3) := by decide +kernel
theorem dX8_weightOf_197 : decode cX8_weightOf 197 = .ok (.goto (-38), 3) := by decide +kernel
theorem dX8_weightOf_200 : decode cX8_weightOf 200 = .ok (.lload 5, 2) := by decide +kernel
theorem dX8_weightOf_202 : decode cX8_weightOf 202 = .ok (.lreturn, 1) := by decide +kernel
theorem dX8_weight_0 : decode cX8_weight 0 = .ok (.aload_n 0, 1) := by decide +kernel
theorem dX8_weight_1 : decode cX8_weight 1 = .ok (.iload_n 1, 1) := by decide +kernel
theorem dX8_weight_2 : decode cX8_weight 2 = .ok (.invokevirtual 139, 3) := by decide +kernel
theorem dX8_weight_5 : decode cX8_weight 5 = .ok (.ifCond .ne 7, 3) := by decide +kernel
theorem dX8_weight_8 : decode cX8_weight 8 = .ok (.ldc2_w 149, 3) := by decide +kernel
theorem dX8_weight_11 : decode cX8_weight 11 = .ok (.lreturn, 1) := by decide +kernel
theorem dX8_weight_12 : decode cX8_weight 12 = .ok (.iconst 0, 1) := by decide +kernel
theorem dX8_weight_13 : decode cX8_weight 13 = .ok (.istore_n 3, 1) := by decide +kernel
theorem dX8_weight_14 : decode cX8_weight 14 = .ok (.iload_n 3, 1) := by decide +kernel
theorem dX8_weight_15 : decode cX8_weight 15 = .ok (.iload_n 1, 1) := by decide +kernel
theorem dX8_weight_16 : decode cX8_weight 16 = .ok (.if_icmp .gt 20, 3) := by decide +kernel
theorem dX8_weight_19 : decode cX8_weight 19 = .ok (.aload_n 0, 1) := by decide +kernel
theorem dX8_weight_20 : decode cX8_weight 20 = .ok (.getfield 40, 3) := by decide +kernel
theorem dX8_weight_23 : decode cX8_weight 23 = .ok (.iload_n 3, 1) := by decide +kernel
theorem dX8_weight_24 : decode cX8_weight 24 = .ok (.aload_n 0, 1) := by decide +kernel
theorem dX8_weight_25 : decode cX8_weight 25 = .ok (.iload_n 3, 1) := by decide +kernel
theorem dX8_weight_26 : decode cX8_weight 26 = .ok (.invokevirtual 163, 3) := by decide +kernel
theorem dX8_weight_29 : decode cX8_weight 29 = .ok (.lastore, 1) := by decide +kernel
theorem dX8_weight_30 : decode cX8_weight 30 = .ok (.iinc 3 1, 3) := by decide +kernel
theorem dX8_weight_33 : decode cX8_weight 33 = .ok (.goto (-19), 3) := by decide +kernel
theorem dX8_weight_36 : decode cX8_weight 36 = .ok (.iload_n 2, 1) := by decide +kernel
theorem dX8_weight_37 : decode cX8_weight 37 = .ok (.ifCond .eq 11, 3) := by decide +kernel
theorem dX8_weight_40 : decode cX8_weight 40 = .ok (.aload_n 0, 1) := by decide +kernel
theorem dX8_weight_41 : decode cX8_weight 41 = .ok (.iload_n 1, 1) := by decide +kernel
theorem dX8_weight_42 : decode cX8_weight 42 = .ok (.invokevirtual 159, 3) := by decide +kernel
theorem dX8_weight_45 : decode cX8_weight 45 = .ok (.goto 9, 3) := by decide +kernel
theorem dX8_weight_48 : decode cX8_weight 48 = .ok (.aload_n 0, 1) := by decide +kernel
theorem dX8_weight_49 : decode cX8_weight 49 = .ok (.getfield 40, 3) := by decide +kernel
theorem dX8_weight_52 : decode cX8_weight 52 = .ok (.iload_n 1, 1) := by decide +kernel
theorem dX8_weight_53 : decode cX8_weight 53 = .ok (.laload, 1) := by decide +kernel
theorem dX8_weight_54 : decode cX8_weight 54 = .ok (.lreturn, 1) := by decide +kernel
theorem dX8_equal_0 : decode cX8_equal 0 = .ok (.aload_n 0, 1) := by decide +kernel
theorem dX8_equal_1 : decode cX8_equal 1 = .ok (.iload_n 1, 1) := by decide +kernel
theorem dX8_equal_2 : decode cX8_equal 2 = .ok (.invokevirtual 139, 3) := by decide +kernel
theorem dX8_equal_5 : decode cX8_equal 5 = .ok (.ifCond .eq 11, 3) := by decide +kernel
theorem dX8_equal_8 : decode cX8_equal 8 = .ok (.aload_n 0, 1) := by decide +kernel
theorem dX8_equal_9 : decode cX8_equal 9 = .ok (.iload_n 2, 1) := by decide +kernel
theorem dX8_equal_10 : decode cX8_equal 10 = .ok (.invokevirtual 139, 3) := by decide +kernel
theorem dX8_equal_13 : decode cX8_equal 13 = .ok (.ifCond .ne 8, 3) := by decide +kernel
theorem dX8_equal_16 : decode cX8_equal 16 = .ok (.bipush (-2), 2) := by decide +kernel
theorem dX8_equal_18 : decode cX8_equal 18 = .ok (.goto 23, 3) := by decide +kernel
theorem dX8_equal_21 : decode cX8_equal 21 = .ok (.aload_n 0, 1) := by decide +kernel
theorem dX8_equal_22 : decode cX8_equal 22 = .ok (.getfield 34, 3) := by decide +kernel
theorem dX8_equal_25 : decode cX8_equal 25 = .ok (.iload_n 1, 1) := by decide +kernel
theorem dX8_equal_26 : decode cX8_equal 26 = .ok (.iaload, 1) := by decide +kernel
theorem dX8_equal_27 : decode cX8_equal 27 = .ok (.aload_n 0, 1) := by decide +kernel
theorem dX8_equal_28 : decode cX8_equal 28 = .ok (.getfield 34, 3) := by decide +kernel
theorem dX8_equal_31 : decode cX8_equal 31 = .ok (.iload_n 2, 1) := by decide +kernel
theorem dX8_equal_32 : decode cX8_equal 32 = .ok (.iaload, 1) := by decide +kernel
theorem dX8_equal_33 : decode cX8_equal 33 = .ok (.if_icmp .ne 7, 3) := by decide +kernel
theorem dX8_equal_36 : decode cX8_equal 36 = .ok (.iconst 1, 1) := by decide +kernel
theorem dX8_equal_37 : decode cX8_equal 37 = .ok (.goto 4, 3) := by decide +kernel
theorem dX8_equal_40 : decode cX8_equal 40 = .ok (.iconst 0, 1) := by decide +kernel
theorem dX8_equal_41 : decode cX8_equal 41 = .ok (.ireturn, 1) := by decide +kernel
theorem dX8_hash_0 : decode cX8_hash 0 = .ok (.aload_n 0, 1) := by decide +kernel
theorem dX8_hash_1 : decode cX8_hash 1 = .ok (.iload_n 1, 1) := by decide +kernel
theorem dX8_hash_2 : decode cX8_hash 2 = .ok (.invokevirtual 139, 3) := by decide +kernel
theorem dX8_hash_5 : decode cX8_hash 5 = .ok (.ifCond .eq 12, 3) := by decide +kernel
theorem dX8_hash_8 : decode cX8_hash 8 = .ok (.aload_n 0, 1) := by decide +kernel
theorem dX8_hash_9 : decode cX8_hash 9 = .ok (.getfield 37, 3) := by decide +kernel
theorem dX8_hash_12 : decode cX8_hash 12 = .ok (.iload_n 1, 1) := by decide +kernel
theorem dX8_hash_13 : decode cX8_hash 13 = .ok (.iaload, 1) := by decide +kernel
theorem dX8_hash_14 : decode cX8_hash 14 = .ok (.goto 4, 3) := by decide +kernel
theorem dX8_hash_17 : decode cX8_hash 17 = .ok (.iconst 0, 1) := by decide +kernel
theorem dX8_hash_18 : decode cX8_hash 18 = .ok (.ireturn, 1) := by decide +kernel
theorem dX8_first_0 : decode cX8_first 0 = .ok (.aload_n 0, 1) := by decide +kernel
theorem dX8_first_1 : decode cX8_first 1 = .ok (.iload_n 1, 1) := by decide +kernel
theorem dX8_first_2 : decode cX8_first 2 = .ok (.invokevirtual 139, 3) := by decide +kernel
theorem dX8_first_5 : decode cX8_first 5 = .ok (.ifCond .eq 12, 3) := by decide +kernel
theorem dX8_first_8 : decode cX8_first 8 = .ok (.aload_n 0, 1) := by decide +kernel
theorem dX8_first_9 : decode cX8_first 9 = .ok (.getfield 34, 3) := by decide +kernel
theorem dX8_first_12 : decode cX8_first 12 = .ok (.iload_n 1, 1) := by decide +kernel
theorem dX8_first_13 : decode cX8_first 13 = .ok (.iaload, 1) := by decide +kernel
theorem dX8_first_14 : decode cX8_first 14 = .ok (.goto 5, 3) := by decide +kernel
theorem dX8_first_17 : decode cX8_first 17 = .ok (.bipush (-2), 2) := by decide +kernel
theorem dX8_first_19 : decode cX8_first 19 = .ok (.ireturn, 1) := by decide +kernel
theorem dX8_by_0 : decode cX8_by 0 = .ok (.lload_n 0, 1) := by decide +kernel
theorem dX8_by_1 : decode cX8_by 1 = .ok (.lload_n 2, 1) := by decide +kernel
theorem dX8_by_2 : decode cX8_by 2 = .ok (.lcmp, 1) := by decide +kernel
theorem dX8_by_3 : decode cX8_by 3 = .ok (.ifCond .ge 7, 3) := by decide +kernel
theorem dX8_by_6 : decode cX8_by 6 = .ok (.iconst (-1), 1) := by decide +kernel
theorem dX8_by_7 : decode cX8_by 7 = .ok (.goto 14, 3) := by decide +kernel
theorem dX8_by_10 : decode cX8_by 10 = .ok (.lload_n 0, 1) := by decide +kernel
theorem dX8_by_11 : decode cX8_by 11 = .ok (.lload_n 2, 1) := by decide +kernel
theorem dX8_by_12 : decode cX8_by 12 = .ok (.lcmp, 1) := by decide +kernel
theorem dX8_by_13 : decode cX8_by 13 = .ok (.ifCond .le 7, 3) := by decide +kernel
theorem dX8_by_16 : decode cX8_by 16 = .ok (.iconst 1, 1) := by decide +kernel
theorem dX8_by_17 : decode cX8_by 17 = .ok (.goto 4, 3) := by decide +kernel
theorem dX8_by_20 : decode cX8_by 20 = .ok (.iconst 0, 1) := by decide +kernel
theorem dX8_by_21 : decode cX8_by 21 = .ok (.ireturn, 1) := by decide +kernel
theorem dX8_line_0 : decode cX8_line 0 = .ok (.lload_n 0, 1) := by decide +kernel
theorem dX8_line_1 : decode cX8_line 1 = .ok (.lconst 0, 1) := by decide +kernel
theorem dX8_line_2 : decode cX8_line 2 = .ok (.lcmp, 1) := by decide +kernel
theorem dX8_line_3 : decode cX8_line 3 = .ok (.ifCond .ge 11, 3) := by decide +kernel
theorem dX8_line_6 : decode cX8_line 6 = .ok (.lload_n 0, 1) := by decide +kernel
theorem dX8_line_7 : decode cX8_line 7 = .ok (.ldc2_w 110, 3) := by decide +kernel
theorem dX8_line_10 : decode cX8_line 10 = .ok (.lxor, 1) := by decide +kernel
theorem dX8_line_11 : decode cX8_line 11 = .ok (.goto 4, 3) := by decide +kernel
theorem dX8_line_14 : decode cX8_line 14 = .ok (.lload_n 0, 1) := by decide +kernel
theorem dX8_line_15 : decode cX8_line 15 = .ok (.lreturn, 1) := by decide +kernel
theorem dX8_byRows_0 : decode cX8_byRows 0 = .ok (.aload_n 0, 1) := by decide +kernel
theorem dX8_byRows_1 : decode cX8_byRows 1 = .ok (.iload_n 1, 1) := by decide +kernel
theorem dX8_byRows_2 : decode cX8_byRows 2 = .ok (.iconst 0, 1) := by decide +kernel
theorem dX8_byRows_3 : decode cX8_byRows 3 = .ok (.invokevirtual 90, 3) := by decide +kernel
theorem dX8_byRows_6 : decode cX8_byRows 6 = .ok (.l2i, 1) := by decide +kernel
theorem dX8_byRows_7 : decode cX8_byRows 7 = .ok (.istore_n 3, 1) := by decide +kernel
theorem dX8_byRows_8 : decode cX8_byRows 8 = .ok (.aload_n 0, 1) := by decide +kernel
theorem dX8_byRows_9 : decode cX8_byRows 9 = .ok (.iload_n 2, 1) := by decide +kernel
theorem dX8_byRows_10 : decode cX8_byRows 10 = .ok (.iconst 0, 1) := by decide +kernel
theorem dX8_byRows_11 : decode cX8_byRows 11 = .ok (.invokevirtual 90, 3) := by decide +kernel
theorem dX8_byRows_14 : decode cX8_byRows 14 = .ok (.l2i, 1) := by decide +kernel
theorem dX8_byRows_15 : decode cX8_byRows 15 = .ok (.istore 4, 2) := by decide +kernel
theorem dX8_byRows_17 : decode cX8_byRows 17 = .ok (.iconst 0, 1) := by decide +kernel
theorem dX8_byRows_18 : decode cX8_byRows 18 = .ok (.istore 5, 2) := by decide +kernel
theorem dX8_byRows_20 : decode cX8_byRows 20 = .ok (.iload 5, 2) := by decide +kernel
theorem dX8_byRows_22 : decode cX8_byRows 22 = .ok (.iload_n 3, 1) := by decide +kernel
theorem dX8_byRows_23 : decode cX8_byRows 23 = .ok (.if_icmp .ge 60, 3) := by decide +kernel
theorem dX8_byRows_26 : decode cX8_byRows 26 = .ok (.iload 5, 2) := by decide +kernel
theorem dX8_byRows_28 : decode cX8_byRows 28 = .ok (.iload 4, 2) := by decide +kernel
theorem dX8_byRows_30 : decode cX8_byRows 30 = .ok (.if_icmp .ge 53, 3) := by decide +kernel
theorem dX8_byRows_33 : decode cX8_byRows 33 = .ok (.aload_n 0, 1) := by decide +kernel
theorem dX8_byRows_34 : decode cX8_byRows 34 = .ok (.iload_n 1, 1) := by decide +kernel
theorem dX8_byRows_35 : decode cX8_byRows 35 = .ok (.iconst 3, 1) := by decide +kernel
theorem dX8_byRows_36 : decode cX8_byRows 36 = .ok (.iload 5, 2) := by decide +kernel
theorem dX8_byRows_38 : decode cX8_byRows 38 = .ok (.iadd, 1) := by decide +kernel
theorem dX8_byRows_39 : decode cX8_byRows 39 = .ok (.invokevirtual 90, 3) := by decide +kernel
theorem dX8_byRows_42 : decode cX8_byRows 42 = .ok (.aload_n 0, 1) := by decide +kernel
theorem dX8_byRows_43 : decode cX8_byRows 43 = .ok (.iload_n 2, 1) := by decide +kernel
theorem dX8_byRows_44 : decode cX8_byRows 44 = .ok (.iconst 3, 1) := by decide +kernel
theorem dX8_byRows_45 : decode cX8_byRows 45 = .ok (.iload 5, 2) := by decide +kernel
theorem dX8_byRows_47 : decode cX8_byRows 47 = .ok (.iadd, 1) := by decide +kernel
theorem dX8_byRows_48 : decode cX8_byRows 48 = .ok (.invokevirtual 90, 3) := by decide +kernel
theorem dX8_byRows_51 : decode cX8_byRows 51 = .ok (.lcmp, 1) := by decide +kernel
theorem dX8_byRows_52 : decode cX8_byRows 52 = .ok (.ifCond .eq 25, 3) := by decide +kernel
theorem dX8_byRows_55 : decode cX8_byRows 55 = .ok (.aload_n 0, 1) := by decide +kernel
theorem dX8_byRows_56 : decode cX8_byRows 56 = .ok (.iload_n 1, 1) := by decide +kernel
theorem dX8_byRows_57 : decode cX8_byRows 57 = .ok (.iconst 3, 1) := by decide +kernel
theorem dX8_byRows_58 : decode cX8_byRows 58 = .ok (.iload 5, 2) := by decide +kernel
theorem dX8_byRows_60 : decode cX8_byRows 60 = .ok (.iadd, 1) := by decide +kernel
theorem dX8_byRows_61 : decode cX8_byRows 61 = .ok (.invokevirtual 90, 3) := by decide +kernel
theorem dX8_byRows_64 : decode cX8_byRows 64 = .ok (.aload_n 0, 1) := by decide +kernel
theorem dX8_byRows_65 : decode cX8_byRows 65 = .ok (.iload_n 2, 1) := by decide +kernel
theorem dX8_byRows_66 : decode cX8_byRows 66 = .ok (.iconst 3, 1) := by decide +kernel
theorem dX8_byRows_67 : decode cX8_byRows 67 = .ok (.iload 5, 2) := by decide +kernel
theorem dX8_byRows_69 : decode cX8_byRows 69 = .ok (.iadd, 1) := by decide +kernel
theorem dX8_byRows_70 : decode cX8_byRows 70 = .ok (.invokevirtual 90, 3) := by decide +kernel
theorem dX8_byRows_73 : decode cX8_byRows 73 = .ok (.invokestatic 166, 3) := by decide +kernel
theorem dX8_byRows_76 : decode cX8_byRows 76 = .ok (.ireturn, 1) := by decide +kernel
theorem dX8_byRows_77 : decode cX8_byRows 77 = .ok (.iinc 5 1, 3) := by decide +kernel
theorem dX8_byRows_80 : decode cX8_byRows 80 = .ok (.goto (-60), 3) := by decide +kernel
theorem dX8_byRows_83 : decode cX8_byRows 83 = .ok (.iload_n 3, 1) := by decide +kernel
theorem dX8_byRows_84 : decode cX8_byRows 84 = .ok (.iload 4, 2) := by decide +kernel
theorem dX8_byRows_86 : decode cX8_byRows 86 = .ok (.if_icmp .eq 14, 3) := by decide +kernel
theorem dX8_byRows_89 : decode cX8_byRows 89 = .ok (.iload_n 3, 1) := by decide +kernel
theorem dX8_byRows_90 : decode cX8_byRows 90 = .ok (.i2l, 1) := by decide +kernel
theorem dX8_byRows_91 : decode cX8_byRows 91 = .ok (.iload 4, 2) := by decide +kernel
theorem dX8_byRows_93 : decode cX8_byRows 93 = .ok (.i2l, 1) := by decide +kernel
theorem dX8_byRows_94 : decode cX8_byRows 94 = .ok (.invokestatic 166, 3) := by decide +kernel
theorem dX8_byRows_97 : decode cX8_byRows 97 = .ok (.goto 18, 3) := by decide +kernel
theorem dX8_byRows_100 : decode cX8_byRows 100 = .ok (.aload_n 0, 1) := by decide +kernel
theorem dX8_byRows_101 : decode cX8_byRows 101 = .ok (.iload_n 1, 1) := by decide +kernel
theorem dX8_byRows_102 : decode cX8_byRows 102 = .ok (.iconst 1, 1) := by decide +kernel
theorem dX8_byRows_103 : decode cX8_byRows 103 = .ok (.invokevirtual 90, 3) := by decide +kernel
theorem dX8_byRows_106 : decode cX8_byRows 106 = .ok (.aload_n 0, 1) := by decide +kernel
theorem dX8_byRows_107 : decode cX8_byRows 107 = .ok (.iload_n 2, 1) := by decide +kernel
theorem dX8_byRows_108 : decode cX8_byRows 108 = .ok (.iconst 1, 1) := by decide +kernel
theorem dX8_byRows_109 : decode cX8_byRows 109 = .ok (.invokevirtual 90, 3) := by decide +kernel
theorem dX8_byRows_112 : decode cX8_byRows 112 = .ok (.invokestatic 166, 3) := by decide +kernel
theorem dX8_byRows_115 : decode cX8_byRows 115 = .ok (.ireturn, 1) := by decide +kernel
theorem dX8_compared_0 : decode cX8_compared 0 = .ok (.iload_n 1, 1) := by decide +kernel
theorem dX8_compared_1 : decode cX8_compared 1 = .ok (.istore_n 3, 1) := by decide +kernel
theorem dX8_compared_2 : decode cX8_compared 2 = .ok (.iload_n 2, 1) := by decide +kernel
theorem dX8_compared_3 : decode cX8_compared 3 = .ok (.istore 4, 2) := by decide +kernel
theorem dX8_compared_5 : decode cX8_compared 5 = .ok (.iload_n 3, 1) := by decide +kernel
theorem dX8_compared_6 : decode cX8_compared 6 = .ok (.iconst (-1), 1) := by decide +kernel
theorem dX8_compared_7 : decode cX8_compared 7 = .ok (.if_icmp .eq 88, 3) := by decide +kernel
theorem dX8_compared_10 : decode cX8_compared 10 = .ok (.iload 4, 2) := by decide +kernel
theorem dX8_compared_12 : decode cX8_compared 12 = .ok (.iconst (-1), 1) := by decide +kernel
theorem dX8_compared_13 : decode cX8_compared 13 = .ok (.if_icmp .eq 82, 3) := by decide +kernel
theorem dX8_compared_16 : decode cX8_compared 16 = .ok (.aload_n 0, 1) := by decide +kernel
theorem dX8_compared_17 : decode cX8_compared 17 = .ok (.getfield 20, 3) := by decide +kernel
theorem dX8_compared_20 : decode cX8_compared 20 = .ok (.iload_n 3, 1) := by decide +kernel
theorem dX8_compared_21 : decode cX8_compared 21 = .ok (.iaload, 1) := by decide +kernel
theorem dX8_compared_22 : decode cX8_compared 22 = .ok (.iconst 4, 1) := by decide +kernel
theorem dX8_compared_23 : decode cX8_compared 23 = .ok (.if_icmp .ne 72, 3) := by decide +kernel
theorem dX8_compared_26 : decode cX8_compared 26 = .ok (.aload_n 0, 1) := by decide +kernel
theorem dX8_compared_27 : decode cX8_compared 27 = .ok (.getfield 20, 3) := by decide +kernel
theorem dX8_compared_30 : decode cX8_compared 30 = .ok (.iload 4, 2) := by decide +kernel
theorem dX8_compared_32 : decode cX8_compared 32 = .ok (.iaload, 1) := by decide +kernel
theorem dX8_compared_33 : decode cX8_compared 33 = .ok (.iconst 4, 1) := by decide +kernel
theorem dX8_compared_34 : decode cX8_compared 34 = .ok (.if_icmp .ne 61, 3) := by decide +kernel
theorem dX8_compared_37 : decode cX8_compared 37 = .ok (.aload_n 0, 1) := by decide +kernel
theorem dX8_compared_38 : decode cX8_compared 38 = .ok (.aload_n 0, 1) := by decide +kernel
theorem dX8_compared_39 : decode cX8_compared 39 = .ok (.iload_n 3, 1) := by decide +kernel
theorem dX8_compared_40 : decode cX8_compared 40 = .ok (.iconst 0, 1) := by decide +kernel
theorem dX8_compared_41 : decode cX8_compared 41 = .ok (.invokevirtual 90, 3) := by decide +kernel
theorem dX8_compared_44 : decode cX8_compared 44 = .ok (.invokevirtual 94, 3) := by decide +kernel
theorem dX8_compared_47 : decode cX8_compared 47 = .ok (.aload_n 0, 1) := by decide +kernel
theorem dX8_compared_48 : decode cX8_compared 48 = .ok (.aload_n 0, 1) := by decide +kernel
theorem dX8_compared_49 : decode cX8_compared 49 = .ok (.iload 4, 2) := by decide +kernel
theorem dX8_compared_51 : decode cX8_compared 51 = .ok (.iconst 0, 1) := by decide +kernel
theorem dX8_compared_52 : decode cX8_compared 52 = .ok (.invokevirtual 90, 3) := by decide +kernel
theorem dX8_compared_55 : decode cX8_compared 55 = .ok (.invokevirtual 94, 3) := by decide +kernel
theorem dX8_compared_58 : decode cX8_compared 58 = .ok (.if_icmp .ne 7, 3) := by decide +kernel
theorem dX8_compared_61 : decode cX8_compared 61 = .ok (.iconst 1, 1) := by decide +kernel
theorem dX8_compared_62 : decode cX8_compared 62 = .ok (.goto 4, 3) := by decide +kernel
theorem dX8_compared_65 : decode cX8_compared 65 = .ok (.iconst 0, 1) := by decide +kernel
theorem dX8_compared_66 : decode cX8_compared 66 = .ok (.istore 5, 2) := by decide +kernel
theorem dX8_compared_68 : decode cX8_compared 68 = .ok (.aload_n 0, 1) := by decide +kernel
theorem dX8_compared_69 : decode cX8_compared 69 = .ok (.iload_n 3, 1) := by decide +kernel
theorem dX8_compared_70 : decode cX8_compared 70 = .ok (.iload 5, 2) := by decide +kernel
theorem dX8_compared_72 : decode cX8_compared 72 = .ok (.invokevirtual 90, 3) := by decide +kernel
theorem dX8_compared_75 : decode cX8_compared 75 = .ok (.l2i, 1) := by decide +kernel
theorem dX8_compared_76 : decode cX8_compared 76 = .ok (.istore 6, 2) := by decide +kernel
theorem dX8_compared_78 : decode cX8_compared 78 = .ok (.aload_n 0, 1) := by decide +kernel
theorem dX8_compared_79 : decode cX8_compared 79 = .ok (.iload 4, 2) := by decide +kernel
theorem dX8_compared_81 : decode cX8_compared 81 = .ok (.iload 5, 2) := by decide +kernel
theorem dX8_compared_83 : decode cX8_compared 83 = .ok (.invokevirtual 90, 3) := by decide +kernel
theorem dX8_compared_86 : decode cX8_compared 86 = .ok (.l2i, 1) := by decide +kernel
theorem dX8_compared_87 : decode cX8_compared 87 = .ok (.istore 4, 2) := by decide +kernel
theorem dX8_compared_89 : decode cX8_compared 89 = .ok (.iload 6, 2) := by decide +kernel
theorem dX8_compared_91 : decode cX8_compared 91 = .ok (.istore_n 3, 1) := by decide +kernel
theorem dX8_compared_92 : decode cX8_compared 92 = .ok (.goto (-87), 3) := by decide +kernel
theorem dX8_compared_95 : decode cX8_compared 95 = .ok (.iload_n 3, 1) := by decide +kernel
theorem dX8_compared_96 : decode cX8_compared 96 = .ok (.iconst (-1), 1) := by decide +kernel
theorem dX8_compared_97 : decode cX8_compared 97 = .ok (.if_icmp .eq 9, 3) := by decide +kernel
theorem dX8_compared_100 : decode cX8_compared 100 = .ok (.iload 4, 2) := by decide +kernel
theorem dX8_compared_102 : decode cX8_compared 102 = .ok (.iconst (-1), 1) := by decide +kernel
theorem dX8_compared_103 : decode cX8_compared 103 = .ok (.if_icmp .ne 12, 3) := by decide +kernel
theorem dX8_compared_106 : decode cX8_compared 106 = .ok (.iload_n 3, 1) := by decide +kernel
theorem dX8_compared_107 : decode cX8_compared 107 = .ok (.i2l, 1) := by decide +kernel
theorem dX8_compared_108 : decode cX8_compared 108 = .ok (.iload 4, 2) := by decide +kernel
theorem dX8_compared_110 : decode cX8_compared 110 = .ok (.i2l, 1) := by decide +kernel
theorem dX8_compared_111 : decode cX8_compared 111 = .ok (.invokestatic 166, 3) := by decide +kernel
theorem dX8_compared_114 : decode cX8_compared 114 = .ok (.ireturn, 1) := by decide +kernel
theorem dX8_compared_115 : decode cX8_compared 115 = .ok (.aload_n 0, 1) := by decide +kernel
theorem dX8_compared_116 : decode cX8_compared 116 = .ok (.getfield 20, 3) := by decide +kernel
theorem dX8_compared_119 : decode cX8_compared 119 = .ok (.iload_n 3, 1) := by decide +kernel
theorem dX8_compared_120 : decode cX8_compared 120 = .ok (.iaload, 1) := by decide +kernel
theorem dX8_compared_121 : decode cX8_compared 121 = .ok (.aload_n 0, 1) := by decide +kernel
theorem dX8_compared_122 : decode cX8_compared 122 = .ok (.getfield 20, 3) := by decide +kernel
theorem dX8_compared_125 : decode cX8_compared 125 = .ok (.iload 4, 2) := by decide +kernel
theorem dX8_compared_127 : decode cX8_compared 127 = .ok (.iaload, 1) := by decide +kernel
theorem dX8_compared_128 : decode cX8_compared 128 = .ok (.if_icmp .eq 22, 3) := by decide +kernel
theorem dX8_compared_131 : decode cX8_compared 131 = .ok (.aload_n 0, 1) := by decide +kernel
theorem dX8_compared_132 : decode cX8_compared 132 = .ok (.getfield 20, 3) := by decide +kernel
theorem dX8_compared_135 : decode cX8_compared 135 = .ok (.iload_n 3, 1) := by decide +kernel
theorem dX8_compared_136 : decode cX8_compared 136 = .ok (.iaload, 1) := by decide +kernel
theorem dX8_compared_137 : decode cX8_compared 137 = .ok (.i2l, 1) := by decide +kernel
theorem dX8_compared_138 : decode cX8_compared 138 = .ok (.aload_n 0, 1) := by decide +kernel
theorem dX8_compared_139 : decode cX8_compared 139 = .ok (.getfield 20, 3) := by decide +kernel
theorem dX8_compared_142 : decode cX8_compared 142 = .ok (.iload 4, 2) := by decide +kernel
theorem dX8_compared_144 : decode cX8_compared 144 = .ok (.iaload, 1) := by decide +kernel
theorem dX8_compared_145 : decode cX8_compared 145 = .ok (.i2l, 1) := by decide +kernel
theorem dX8_compared_146 : decode cX8_compared 146 = .ok (.invokestatic 166, 3) := by decide +kernel
theorem dX8_compared_149 : decode cX8_compared 149 = .ok (.ireturn, 1) := by decide +kernel
theorem dX8_compared_150 : decode cX8_compared 150 = .ok (.aload_n 0, 1) := by decide +kernel
theorem dX8_compared_151 : decode cX8_compared 151 = .ok (.getfield 20, 3) := by decide +kernel
theorem dX8_compared_154 : decode cX8_compared 154 = .ok (.iload_n 3, 1) := by decide +kernel
theorem dX8_compared_155 : decode cX8_compared 155 = .ok (.iaload, 1) := by decide +kernel
theorem dX8_compared_156 : decode cX8_compared 156 = .ok (.bipush 6, 2) := by decide +kernel
theorem dX8_compared_158 : decode cX8_compared 158 = .ok (.if_icmp .ne 12, 3) := by decide +kernel
theorem dX8_compared_161 : decode cX8_compared 161 = .ok (.iload_n 3, 1) := by decide +kernel
theorem dX8_compared_162 : decode cX8_compared 162 = .ok (.i2l, 1) := by decide +kernel
theorem dX8_compared_163 : decode cX8_compared 163 = .ok (.iload 4, 2) := by decide +kernel
theorem dX8_compared_165 : decode cX8_compared 165 = .ok (.i2l, 1) := by decide +kernel
theorem dX8_compared_166 : decode cX8_compared 166 = .ok (.invokestatic 166, 3) := by decide +kernel
theorem dX8_compared_169 : decode cX8_compared 169 = .ok (.ireturn, 1) := by decide +kernel
theorem dX8_compared_170 : decode cX8_compared 170 = .ok (.aload_n 0, 1) := by decide +kernel
theorem dX8_compared_171 : decode cX8_compared 171 = .ok (.getfield 20, 3) := by decide +kernel
theorem dX8_compared_174 : decode cX8_compared 174 = .ok (.iload_n 3, 1) := by decide +kernel
theorem dX8_compared_175 : decode cX8_compared 175 = .ok (.iaload, 1) := by decide +kernel
theorem dX8_compared_176 : decode cX8_compared 176 = .ok (.iconst 5, 1) := by decide +kernel
theorem dX8_compared_177 : decode cX8_compared 177 = .ok (.if_icmp .ne 11, 3) := by decide +kernel
theorem dX8_compared_180 : decode cX8_compared 180 = .ok (.aload_n 0, 1) := by decide +kernel
theorem dX8_compared_181 : decode cX8_compared 181 = .ok (.iload_n 3, 1) := by decide +kernel
theorem dX8_compared_182 : decode cX8_compared 182 = .ok (.iload 4, 2) := by decide +kernel
theorem dX8_compared_184 : decode cX8_compared 184 = .ok (.invokevirtual 170, 3) := by decide +kernel
theorem dX8_compared_187 : decode cX8_compared 187 = .ok (.ireturn, 1) := by decide +kernel
theorem dX8_compared_188 : decode cX8_compared 188 = .ok (.iconst 0, 1) := by decide +kernel
theorem dX8_compared_189 : decode cX8_compared 189 = .ok (.istore 5, 2) := by decide +kernel
theorem dX8_compared_191 : decode cX8_compared 191 = .ok (.iload 5, 2) := by decide +kernel
theorem dX8_compared_193 : decode cX8_compared 193 = .ok (.aload_n 0, 1) := by decide +kernel
theorem dX8_compared_194 : decode cX8_compared 194 = .ok (.getfield 23, 3) := by decide +kernel
theorem dX8_compared_197 : decode cX8_compared 197 = .ok (.iload_n 3, 1) := by decide +kernel
theorem dX8_compared_198 : decode cX8_compared 198 = .ok (.iaload, 1) := by decide +kernel
theorem dX8_compared_199 : decode cX8_compared 199 = .ok (.if_icmp .ge 69, 3) := by decide +kernel
theorem dX8_compared_202 : decode cX8_compared 202 = .ok (.aload_n 0, 1) := by decide +kernel
theorem dX8_compared_203 : decode cX8_compared 203 = .ok (.iload_n 3, 1) := by decide +kernel
theorem dX8_compared_204 : decode cX8_compared 204 = .ok (.iload 5, 2) := by decide +kernel
theorem dX8_compared_206 : decode cX8_compared 206 = .ok (.invokevirtual 90, 3) := by decide +kernel
theorem dX8_compared_209 : decode cX8_compared 209 = .ok (.lstore 6, 2) := by decide +kernel
theorem dX8_compared_211 : decode cX8_compared 211 = .ok (.aload_n 0, 1) := by decide +kernel
theorem dX8_compared_212 : decode cX8_compared 212 = .ok (.iload 4, 2) := by decide +kernel
theorem dX8_compared_214 : decode cX8_compared 214 = .ok (.iload 5, 2) := by decide +kernel
theorem dX8_compared_216 : decode cX8_compared 216 = .ok (.invokevirtual 90, 3) := by decide +kernel
theorem dX8_compared_219 : decode cX8_compared 219 = .ok (.lstore 8, 2) := by decide +kernel
theorem dX8_compared_221 : decode cX8_compared 221 = .ok (.lload 6, 2) := by decide +kernel
theorem dX8_compared_223 : decode cX8_compared 223 = .ok (.lload 8, 2) := by decide +kernel
theorem dX8_compared_225 : decode cX8_compared 225 = .ok (.lcmp, 1) := by decide +kernel
theorem dX8_compared_226 : decode cX8_compared 226 = .ok (.ifCond .eq 36, 3) := by decide +kernel
theorem dX8_compared_229 : decode cX8_compared 229 = .ok (.aload_n 0, 1) := by decide +kernel
theorem dX8_compared_230 : decode cX8_compared 230 = .ok (.getfield 20, 3) := by decide +kernel
theorem dX8_compared_233 : decode cX8_compared 233 = .ok (.iload_n 3, 1) := by decide +kernel
theorem dX8_compared_234 : decode cX8_compared 234 = .ok (.iaload, 1) := by decide +kernel
theorem dX8_compared_235 : decode cX8_compared 235 = .ok (.ifCond .ne 19, 3) := by decide +kernel
theorem dX8_compared_238 : decode cX8_compared 238 = .ok (.lload 6, 2) := by decide +kernel
theorem dX8_compared_240 : decode cX8_compared 240 = .ok (.invokestatic 174, 3) := by decide +kernel
theorem dX8_compared_243 : decode cX8_compared 243 = .ok (.lload 8, 2) := by decide +kernel
theorem dX8_compared_245 : decode cX8_compared 245 = .ok (.invokestatic 174, 3) := by decide +kernel
theorem dX8_compared_248 : decode cX8_compared 248 = .ok (.invokestatic 166, 3) := by decide +kernel
theorem dX8_compared_251 : decode cX8_compared 251 = .ok (.goto 10, 3) := by decide +kernel
theorem dX8_compared_254 : decode cX8_compared 254 = .ok (.lload 6, 2) := by decide +kernel
theorem dX8_compared_256 : decode cX8_compared 256 = .ok (.lload 8, 2) := by decide +kernel
theorem dX8_compared_258 : decode cX8_compared 258 = .ok (.invokestatic 166, 3) := by decide +kernel
theorem dX8_compared_261 : decode cX8_compared 261 = .ok (.ireturn, 1) := by decide +kernel
theorem dX8_compared_262 : decode cX8_compared 262 = .ok (.iinc 5 1, 3) := by decide +kernel
theorem dX8_compared_265 : decode cX8_compared 265 = .ok (.goto (-74), 3) := by decide +kernel
theorem dX8_compared_268 : decode cX8_compared 268 = .ok (.iconst 0, 1) := by decide +kernel
theorem dX8_compared_269 : decode cX8_compared 269 = .ok (.ireturn, 1) := by decide +kernel
theorem dX8_ordered_0 : decode cX8_ordered 0 = .ok (.aload_n 0, 1) := by decide +kernel
theorem dX8_ordered_1 : decode cX8_ordered 1 = .ok (.getfield 34, 3) := by decide +kernel
theorem dX8_ordered_4 : decode cX8_ordered 4 = .ok (.iload_n 1, 1) := by decide +kernel
theorem dX8_ordered_5 : decode cX8_ordered 5 = .ok (.iaload, 1) := by decide +kernel
theorem dX8_ordered_6 : decode cX8_ordered 6 = .ok (.aload_n 0, 1) := by decide +kernel
theorem dX8_ordered_7 : decode cX8_ordered 7 = .ok (.getfield 34, 3) := by decide +kernel
theorem dX8_ordered_10 : decode cX8_ordered 10 = .ok (.iload_n 2, 1) := by decide +kernel
theorem dX8_ordered_11 : decode cX8_ordered 11 = .ok (.iaload, 1) := by decide +kernel
theorem dX8_ordered_12 : decode cX8_ordered 12 = .ok (.if_icmp .ne 7, 3) := by decide +kernel
theorem dX8_ordered_15 : decode cX8_ordered 15 = .ok (.iconst 0, 1) := by decide +kernel
theorem dX8_ordered_16 : decode cX8_ordered 16 = .ok (.goto 9, 3) := by decide +kernel
theorem dX8_ordered_19 : decode cX8_ordered 19 = .ok (.aload_n 0, 1) := by decide +kernel
theorem dX8_ordered_20 : decode cX8_ordered 20 = .ok (.iload_n 1, 1) := by decide +kernel
theorem dX8_ordered_21 : decode cX8_ordered 21 = .ok (.iload_n 2, 1) := by decide +kernel
theorem dX8_ordered_22 : decode cX8_ordered 22 = .ok (.invokevirtual 177, 3) := by decide +kernel
theorem dX8_ordered_25 : decode cX8_ordered 25 = .ok (.ireturn, 1) := by decide +kernel
theorem dX8_order_0 : decode cX8_order 0 = .ok (.aload_n 0, 1) := by decide +kernel
theorem dX8_order_1 : decode cX8_order 1 = .ok (.iload_n 1, 1) := by decide +kernel
theorem dX8_order_2 : decode cX8_order 2 = .ok (.invokevirtual 139, 3) := by decide +kernel
theorem dX8_order_5 : decode cX8_order 5 = .ok (.ifCond .eq 20, 3) := by decide +kernel
theorem dX8_order_8 : decode cX8_order 8 = .ok (.aload_n 0, 1) := by decide +kernel
theorem dX8_order_9 : decode cX8_order 9 = .ok (.iload_n 2, 1) := by decide +kernel
theorem dX8_order_10 : decode cX8_order 10 = .ok (.invokevirtual 139, 3) := by decide +kernel
theorem dX8_order_13 : decode cX8_order 13 = .ok (.ifCond .eq 12, 3) := by decide +kernel
theorem dX8_order_16 : decode cX8_order 16 = .ok (.aload_n 0, 1) := by decide +kernel
theorem dX8_order_17 : decode cX8_order 17 = .ok (.iload_n 1, 1) := by decide +kernel
theorem dX8_order_18 : decode cX8_order 18 = .ok (.iload_n 2, 1) := by decide +kernel
theorem dX8_order_19 : decode cX8_order 19 = .ok (.invokevirtual 180, 3) := by decide +kernel
theorem dX8_order_22 : decode cX8_order 22 = .ok (.goto 5, 3) := by decide +kernel
theorem dX8_order_25 : decode cX8_order 25 = .ok (.bipush (-2), 2) := by decide +kernel
theorem dX8_order_27 : decode cX8_order 27 = .ok (.ireturn, 1) := by decide +kernel
theorem dX8_ranked_0 : decode cX8_ranked 0 = .ok (.iload_n 1, 1) := by decide +kernel
theorem dX8_ranked_1 : decode cX8_ranked 1 = .ok (.ifCond .ge 6, 3) := by decide +kernel
theorem dX8_ranked_4 : decode cX8_ranked 4 = .ok (.bipush (-2), 2) := by decide +kernel
theorem dX8_ranked_6 : decode cX8_ranked 6 = .ok (.ireturn, 1) := by decide +kernel
theorem dX8_ranked_7 : decode cX8_ranked 7 = .ok (.iconst 0, 1) := by decide +kernel
theorem dX8_ranked_8 : decode cX8_ranked 8 = .ok (.istore_n 2, 1) := by decide +kernel
theorem dX8_ranked_9 : decode cX8_ranked 9 = .ok (.iload_n 2, 1) := by decide +kernel
theorem dX8_ranked_10 : decode cX8_ranked 10 = .ok (.aload_n 0, 1) := by decide +kernel
theorem dX8_ranked_11 : decode cX8_ranked 11 = .ok (.getfield 83, 3) := by decide +kernel
theorem dX8_ranked_14 : decode cX8_ranked 14 = .ok (.if_icmp .ge 69, 3) := by decide +kernel
theorem dX8_ranked_17 : decode cX8_ranked 17 = .ok (.iconst 0, 1) := by decide +kernel
theorem dX8_ranked_18 : decode cX8_ranked 18 = .ok (.istore_n 3, 1) := by decide +kernel
theorem dX8_ranked_19 : decode cX8_ranked 19 = .ok (.iconst 0, 1) := by decide +kernel
theorem dX8_ranked_20 : decode cX8_ranked 20 = .ok (.istore 4, 2) := by decide +kernel
theorem dX8_ranked_22 : decode cX8_ranked 22 = .ok (.iload 4, 2) := by decide +kernel
theorem dX8_ranked_24 : decode cX8_ranked 24 = .ok (.aload_n 0, 1) := by decide +kernel
theorem dX8_ranked_25 : decode cX8_ranked 25 = .ok (.getfield 83, 3) := by decide +kernel
theorem dX8_ranked_28 : decode cX8_ranked 28 = .ok (.if_icmp .ge 42, 3) := by decide +kernel
theorem dX8_ranked_31 : decode cX8_ranked 31 = .ok (.aload_n 0, 1) := by decide +kernel
theorem dX8_ranked_32 : decode cX8_ranked 32 = .ok (.iload 4, 2) := by decide +kernel
theorem dX8_ranked_34 : decode cX8_ranked 34 = .ok (.iload_n 2, 1) := by decide +kernel
theorem dX8_ranked_35 : decode cX8_ranked 35 = .ok (.invokevirtual 180, 3) := by decide +kernel
theorem dX8_ranked_38 : decode cX8_ranked 38 = .ok (.istore 5, 2) := by decide +kernel
theorem dX8_ranked_40 : decode cX8_ranked 40 = .ok (.iload_n 3, 1) := by decide +kernel
theorem dX8_ranked_41 : decode cX8_ranked 41 = .ok (.iload 5, 2) := by decide +kernel
theorem dX8_ranked_43 : decode cX8_ranked 43 = .ok (.ifCond .lt 14, 3) := by decide +kernel
theorem dX8_ranked_46 : decode cX8_ranked 46 = .ok (.iload 5, 2) := by decide +kernel
theorem dX8_ranked_48 : decode cX8_ranked 48 = .ok (.ifCond .ne 13, 3) := by decide +kernel
theorem dX8_ranked_51 : decode cX8_ranked 51 = .ok (.iload 4, 2) := by decide +kernel
theorem dX8_ranked_53 : decode cX8_ranked 53 = .ok (.iload_n 2, 1) := by decide +kernel
theorem dX8_ranked_54 : decode cX8_ranked 54 = .ok (.if_icmp .ge 7, 3) := by decide +kernel
theorem dX8_ranked_57 : decode cX8_ranked 57 = .ok (.iconst 1, 1) := by decide +kernel
theorem dX8_ranked_58 : decode cX8_ranked 58 = .ok (.goto 4, 3) := by decide +kernel
theorem dX8_ranked_61 : decode cX8_ranked 61 = .ok (.iconst 0, 1) := by decide +kernel
theorem dX8_ranked_62 : decode cX8_ranked 62 = .ok (.iadd, 1) := by decide +kernel
theorem dX8_ranked_63 : decode cX8_ranked 63 = .ok (.istore_n 3, 1) := by decide +kernel
theorem dX8_ranked_64 : decode cX8_ranked 64 = .ok (.iinc 4 1, 3) := by decide +kernel
theorem dX8_ranked_67 : decode cX8_ranked 67 = .ok (.goto (-45), 3) := by decide +kernel
theorem dX8_ranked_70 : decode cX8_ranked 70 = .ok (.iload_n 3, 1) := by decide +kernel
theorem dX8_ranked_71 : decode cX8_ranked 71 = .ok (.iload_n 1, 1) := by decide +kernel
theorem dX8_ranked_72 : decode cX8_ranked 72 = .ok (.if_icmp .ne 5, 3) := by decide +kernel
theorem dX8_ranked_75 : decode cX8_ranked 75 = .ok (.iload_n 2, 1) := by decide +kernel
theorem dX8_ranked_76 : decode cX8_ranked 76 = .ok (.ireturn, 1) := by decide +kernel
theorem dX8_ranked_77 : decode cX8_ranked 77 = .ok (.iinc 2 1, 3) := by decide +kernel
theorem dX8_ranked_80 : decode cX8_ranked 80 = .ok (.goto (-71), 3) := by decide +kernel
theorem dX8_ranked_83 : decode cX8_ranked 83 = .ok (.iconst (-1), 1) := by decide +kernel
theorem dX8_ranked_84 : decode cX8_ranked 84 = .ok (.ireturn, 1) := by decide +kernel
theorem dX8_told4_0 : decode cX8_told4 0 = .ok (.iload_n 0, 1) := by decide +kernel
theorem dX8_told4_1 : decode cX8_told4 1 = .ok (.ifCond .ne 7, 3) := by decide +kernel
theorem dX8_told4_4 : decode cX8_told4 4 = .ok (.iload_n 1, 1) := by decide +kernel
theorem dX8_told4_5 : decode cX8_told4 5 = .ok (.goto 23, 3) := by decide +kernel
theorem dX8_told4_8 : decode cX8_told4 8 = .ok (.iload_n 0, 1) := by decide +kernel
theorem dX8_told4_9 : decode cX8_told4 9 = .ok (.iconst 1, 1) := by decide +kernel
theorem dX8_told4_10 : decode cX8_told4 10 = .ok (.if_icmp .ne 7, 3) := by decide +kernel
theorem dX8_told4_13 : decode cX8_told4 13 = .ok (.iload_n 2, 1) := by decide +kernel
theorem dX8_told4_14 : decode cX8_told4 14 = .ok (.goto 14, 3) := by decide +kernel
theorem dX8_told4_17 : decode cX8_told4 17 = .ok (.iload_n 0, 1) := by decide +kernel
theorem dX8_told4_18 : decode cX8_told4 18 = .ok (.iconst 2, 1) := by decide +kernel
theorem dX8_told4_19 : decode cX8_told4 19 = .ok (.if_icmp .ne 7, 3) := by decide +kernel
theorem dX8_told4_22 : decode cX8_told4 22 = .ok (.iload_n 3, 1) := by decide +kernel
theorem dX8_told4_23 : decode cX8_told4 23 = .ok (.goto 5, 3) := by decide +kernel
theorem dX8_told4_26 : decode cX8_told4 26 = .ok (.iload 4, 2) := by decide +kernel
theorem dX8_told4_28 : decode cX8_told4 28 = .ok (.ireturn, 1) := by decide +kernel
theorem dX8_family_0 : decode cX8_family 0 = .ok (.iconst 0, 1) := by decide +kernel
theorem dX8_family_1 : decode cX8_family 1 = .ok (.istore 5, 2) := by decide +kernel
theorem dX8_family_3 : decode cX8_family 3 = .ok (.iconst 0, 1) := by decide +kernel
theorem dX8_family_4 : decode cX8_family 4 = .ok (.istore 6, 2) := by decide +kernel
theorem dX8_family_6 : decode cX8_family 6 = .ok (.iload 6, 2) := by decide +kernel
theorem dX8_family_8 : decode cX8_family 8 = .ok (.iconst 4, 1) := by decide +kernel
theorem dX8_family_9 : decode cX8_family 9 = .ok (.if_icmp .ge 73, 3) := by decide +kernel
theorem dX8_family_12 : decode cX8_family 12 = .ok (.iload 6, 2) := by decide +kernel
theorem dX8_family_14 : decode cX8_family 14 = .ok (.iload_n 1, 1) := by decide +kernel
theorem dX8_family_15 : decode cX8_family 15 = .ok (.iload_n 2, 1) := by decide +kernel
theorem dX8_family_16 : decode cX8_family 16 = .ok (.iload_n 3, 1) := by decide +kernel
theorem dX8_family_17 : decode cX8_family 17 = .ok (.iload 4, 2) := by decide +kernel
theorem dX8_family_19 : decode cX8_family 19 = .ok (.invokestatic 183, 3) := by decide +kernel
theorem dX8_family_22 : decode cX8_family 22 = .ok (.istore 7, 2) := by decide +kernel
theorem dX8_family_24 : decode cX8_family 24 = .ok (.iload 7, 2) := by decide +kernel
theorem dX8_family_26 : decode cX8_family 26 = .ok (.iconst (-1), 1) := by decide +kernel
theorem dX8_family_27 : decode cX8_family 27 = .ok (.if_icmp .lt 27, 3) := by decide +kernel
theorem dX8_family_30 : decode cX8_family 30 = .ok (.iload 7, 2) := by decide +kernel
theorem dX8_family_32 : decode cX8_family 32 = .ok (.bipush 6, 2) := by decide +kernel
theorem dX8_family_34 : decode cX8_family 34 = .ok (.if_icmp .gt 20, 3) := by decide +kernel
theorem dX8_family_37 : decode cX8_family 37 = .ok (.iload 7, 2) := by decide +kernel
theorem dX8_family_39 : decode cX8_family 39 = .ok (.iconst (-1), 1) := by decide +kernel
theorem dX8_family_40 : decode cX8_family 40 = .ok (.if_icmp .eq 17, 3) := by decide +kernel
theorem dX8_family_43 : decode cX8_family 43 = .ok (.iload 5, 2) := by decide +kernel
theorem dX8_family_45 : decode cX8_family 45 = .ok (.iload 7, 2) := by decide +kernel
theorem dX8_family_47 : decode cX8_family 47 = .ok (.ishr, 1) := by decide +kernel
theorem dX8_family_48 : decode cX8_family 48 = .ok (.iconst 1, 1) := by decide +kernel
theorem dX8_family_49 : decode cX8_family 49 = .ok (.iand, 1) := by decide +kernel
theorem dX8_family_50 : decode cX8_family 50 = .ok (.iconst 1, 1) := by decide +kernel
theorem dX8_family_51 : decode cX8_family 51 = .ok (.if_icmp .ne 6, 3) := by decide +kernel
theorem dX8_family_54 : decode cX8_family 54 = .ok (.bipush (-2), 2) := by decide +kernel
theorem dX8_family_56 : decode cX8_family 56 = .ok (.ireturn, 1) := by decide +kernel
theorem dX8_family_57 : decode cX8_family 57 = .ok (.iload 5, 2) := by decide +kernel
theorem dX8_family_59 : decode cX8_family 59 = .ok (.iload 7, 2) := by decide +kernel
theorem dX8_family_61 : decode cX8_family 61 = .ok (.iconst (-1), 1) := by decide +kernel
theorem dX8_family_62 : decode cX8_family 62 = .ok (.if_icmp .ne 7, 3) := by decide +kernel
theorem dX8_family_65 : decode cX8_family 65 = .ok (.iconst 0, 1) := by decide +kernel
theorem dX8_family_66 : decode cX8_family 66 = .ok (.goto 7, 3) := by decide +kernel
theorem dX8_family_69 : decode cX8_family 69 = .ok (.iconst 1, 1) := by decide +kernel
theorem dX8_family_70 : decode cX8_family 70 = .ok (.iload 7, 2) := by decide +kernel
theorem dX8_family_72 : decode cX8_family 72 = .ok (.ishl, 1) := by decide +kernel
theorem dX8_family_73 : decode cX8_family 73 = .ok (.ior, 1) := by decide +kernel
theorem dX8_family_74 : decode cX8_family 74 = .ok (.istore 5, 2) := by decide +kernel
theorem dX8_family_76 : decode cX8_family 76 = .ok (.iinc 6 1, 3) := by decide +kernel
theorem dX8_family_79 : decode cX8_family 79 = .ok (.goto (-73), 3) := by decide +kernel
theorem dX8_family_82 : decode cX8_family 82 = .ok (.aload_n 0, 1) := by decide +kernel
theorem dX8_family_83 : decode cX8_family 83 = .ok (.getfield 187, 3) := by decide +kernel
theorem dX8_family_86 : decode cX8_family 86 = .ok (.bipush 6, 2) := by decide +kernel
theorem dX8_family_88 : decode cX8_family 88 = .ok (.if_icmp .ne 6, 3) := by decide +kernel
theorem dX8_family_91 : decode cX8_family 91 = .ok (.bipush (-3), 2) := by decide +kernel
theorem dX8_family_93 : decode cX8_family 93 = .ok (.ireturn, 1) := by decide +kernel
theorem dX8_family_94 : decode cX8_family 94 = .ok (.iconst 0, 1) := by decide +kernel
theorem dX8_family_95 : decode cX8_family 95 = .ok (.istore 6, 2) := by decide +kernel
theorem dX8_family_97 : decode cX8_family 97 = .ok (.iconst 0, 1) := by decide +kernel
theorem dX8_family_98 : decode cX8_family 98 = .ok (.istore 7, 2) := by decide +kernel
theorem dX8_family_100 : decode cX8_family 100 = .ok (.iload 7, 2) := by decide +kernel
theorem dX8_family_102 : decode cX8_family 102 = .ok (.iconst 4, 1) := by decide +kernel
theorem dX8_family_103 : decode cX8_family 103 = .ok (.if_icmp .ge 49, 3) := by decide +kernel
theorem dX8_family_106 : decode cX8_family 106 = .ok (.iload 7, 2) := by decide +kernel
theorem dX8_family_108 : decode cX8_family 108 = .ok (.iload_n 1, 1) := by decide +kernel
theorem dX8_family_109 : decode cX8_family 109 = .ok (.iload_n 2, 1) := by decide +kernel
theorem dX8_family_110 : decode cX8_family 110 = .ok (.iload_n 3, 1) := by decide +kernel
theorem dX8_family_111 : decode cX8_family 111 = .ok (.iload 4, 2) := by decide +kernel
theorem dX8_family_113 : decode cX8_family 113 = .ok (.invokestatic 183, 3) := by decide +kernel
theorem dX8_family_116 : decode cX8_family 116 = .ok (.istore 8, 2) := by decide +kernel
theorem dX8_family_118 : decode cX8_family 118 = .ok (.iload 8, 2) := by decide +kernel
theorem dX8_family_120 : decode cX8_family 120 = .ok (.iconst (-1), 1) := by decide +kernel
theorem dX8_family_121 : decode cX8_family 121 = .ok (.if_icmp .ne 6, 3) := by decide +kernel
theorem dX8_family_124 : decode cX8_family 124 = .ok (.goto 22, 3) := by decide +kernel
theorem dX8_family_127 : decode cX8_family 127 = .ok (.aload_n 0, 1) := by decide +kernel
theorem dX8_family_128 : decode cX8_family 128 = .ok (.getfield 46, 3) := by decide +kernel
theorem dX8_family_131 : decode cX8_family 131 = .ok (.iconst 4, 1) := by decide +kernel
theorem dX8_family_132 : decode cX8_family 132 = .ok (.aload_n 0, 1) := by decide +kernel
theorem dX8_family_133 : decode cX8_family 133 = .ok (.getfield 187, 3) := by decide +kernel
theorem dX8_family_136 : decode cX8_family 136 = .ok (.imul, 1) := by decide +kernel
theorem dX8_family_137 : decode cX8_family 137 = .ok (.iload 6, 2) := by decide +kernel
theorem dX8_family_139 : decode cX8_family 139 = .ok (.iadd, 1) := by decide +kernel
theorem dX8_family_140 : decode cX8_family 140 = .ok (.iload 8, 2) := by decide +kernel
theorem dX8_family_142 : decode cX8_family 142 = .ok (.iastore, 1) := by decide +kernel
theorem dX8_family_143 : decode cX8_family 143 = .ok (.iinc 6 1, 3) := by decide +kernel
theorem dX8_family_146 : decode cX8_family 146 = .ok (.iinc 7 1, 3) := by decide +kernel
theorem dX8_family_149 : decode cX8_family 149 = .ok (.goto (-49), 3) := by decide +kernel
theorem dX8_family_152 : decode cX8_family 152 = .ok (.aload_n 0, 1) := by decide +kernel
theorem dX8_family_153 : decode cX8_family 153 = .ok (.getfield 43, 3) := by decide +kernel
theorem dX8_family_156 : decode cX8_family 156 = .ok (.aload_n 0, 1) := by decide +kernel
theorem dX8_family_157 : decode cX8_family 157 = .ok (.getfield 187, 3) := by decide +kernel
theorem dX8_family_160 : decode cX8_family 160 = .ok (.iload 6, 2) := by decide +kernel
theorem dX8_family_162 : decode cX8_family 162 = .ok (.iastore, 1) := by decide +kernel
theorem dX8_family_163 : decode cX8_family 163 = .ok (.aload_n 0, 1) := by decide +kernel
theorem dX8_family_164 : decode cX8_family 164 = .ok (.dup, 1) := by decide +kernel
theorem dX8_family_165 : decode cX8_family 165 = .ok (.getfield 187, 3) := by decide +kernel
theorem dX8_family_168 : decode cX8_family 168 = .ok (.iconst 1, 1) := by decide +kernel
theorem dX8_family_169 : decode cX8_family 169 = .ok (.iadd, 1) := by decide +kernel
theorem dX8_family_170 : decode cX8_family 170 = .ok (.putfield 187, 3) := by decide +kernel
theorem dX8_family_173 : decode cX8_family 173 = .ok (.aload_n 0, 1) := by decide +kernel
theorem dX8_family_174 : decode cX8_family 174 = .ok (.getfield 187, 3) := by decide +kernel
theorem dX8_family_177 : decode cX8_family 177 = .ok (.iconst 1, 1) := by decide +kernel
theorem dX8_family_178 : decode cX8_family 178 = .ok (.isub, 1) := by decide +kernel
theorem dX8_family_179 : decode cX8_family 179 = .ok (.ireturn, 1) := by decide +kernel
theorem dX8_tagOf_0 : decode cX8_tagOf 0 = .ok (.iconst (-1), 1) := by decide +kernel
theorem dX8_tagOf_1 : decode cX8_tagOf 1 = .ok (.istore_n 3, 1) := by decide +kernel
theorem dX8_tagOf_2 : decode cX8_tagOf 2 = .ok (.iconst 0, 1) := by decide +kernel
theorem dX8_tagOf_3 : decode cX8_tagOf 3 = .ok (.istore 4, 2) := by decide +kernel
theorem dX8_tagOf_5 : decode cX8_tagOf 5 = .ok (.iconst 0, 1) := by decide +kernel
theorem dX8_tagOf_6 : decode cX8_tagOf 6 = .ok (.istore 5, 2) := by decide +kernel
theorem dX8_tagOf_8 : decode cX8_tagOf 8 = .ok (.iload 5, 2) := by decide +kernel
theorem dX8_tagOf_10 : decode cX8_tagOf 10 = .ok (.aload_n 0, 1) := by decide +kernel
theorem dX8_tagOf_11 : decode cX8_tagOf 11 = .ok (.getfield 43, 3) := by decide +kernel
theorem dX8_tagOf_14 : decode cX8_tagOf 14 = .ok (.iload_n 1, 1) := by decide +kernel
theorem dX8_tagOf_15 : decode cX8_tagOf 15 = .ok (.iaload, 1) := by decide +kernel
theorem dX8_tagOf_16 : decode cX8_tagOf 16 = .ok (.if_icmp .ge 66, 3) := by decide +kernel
theorem dX8_tagOf_19 : decode cX8_tagOf 19 = .ok (.aload_n 0, 1) := by decide +kernel
theorem dX8_tagOf_20 : decode cX8_tagOf 20 = .ok (.getfield 46, 3) := by decide +kernel
theorem dX8_tagOf_23 : decode cX8_tagOf 23 = .ok (.iconst 4, 1) := by decide +kernel
theorem dX8_tagOf_24 : decode cX8_tagOf 24 = .ok (.iload_n 1, 1) := by decide +kernel
theorem dX8_tagOf_25 : decode cX8_tagOf 25 = .ok (.imul, 1) := by decide +kernel
theorem dX8_tagOf_26 : decode cX8_tagOf 26 = .ok (.iload 5, 2) := by decide +kernel
theorem dX8_tagOf_28 : decode cX8_tagOf 28 = .ok (.iadd, 1) := by decide +kernel
theorem dX8_tagOf_29 : decode cX8_tagOf 29 = .ok (.iaload, 1) := by decide +kernel
theorem dX8_tagOf_30 : decode cX8_tagOf 30 = .ok (.istore 6, 2) := by decide +kernel
theorem dX8_tagOf_32 : decode cX8_tagOf 32 = .ok (.iload 6, 2) := by decide +kernel
theorem dX8_tagOf_34 : decode cX8_tagOf 34 = .ok (.aload_n 0, 1) := by decide +kernel
theorem dX8_tagOf_35 : decode cX8_tagOf 35 = .ok (.getfield 20, 3) := by decide +kernel
theorem dX8_tagOf_38 : decode cX8_tagOf 38 = .ok (.iload_n 2, 1) := by decide +kernel
theorem dX8_tagOf_39 : decode cX8_tagOf 39 = .ok (.iaload, 1) := by decide +kernel
theorem dX8_tagOf_40 : decode cX8_tagOf 40 = .ok (.if_icmp .ne 12, 3) := by decide +kernel
theorem dX8_tagOf_43 : decode cX8_tagOf 43 = .ok (.iload 5, 2) := by decide +kernel
theorem dX8_tagOf_45 : decode cX8_tagOf 45 = .ok (.istore_n 3, 1) := by decide +kernel
theorem dX8_tagOf_46 : decode cX8_tagOf 46 = .ok (.iconst 1, 1) := by decide +kernel
theorem dX8_tagOf_47 : decode cX8_tagOf 47 = .ok (.istore 4, 2) := by decide +kernel
theorem dX8_tagOf_49 : decode cX8_tagOf 49 = .ok (.goto 27, 3) := by decide +kernel
theorem dX8_tagOf_52 : decode cX8_tagOf 52 = .ok (.iload 4, 2) := by decide +kernel
theorem dX8_tagOf_54 : decode cX8_tagOf 54 = .ok (.ifCond .ne 22, 3) := by decide +kernel
theorem dX8_tagOf_57 : decode cX8_tagOf 57 = .ok (.iload 6, 2) := by decide +kernel
theorem dX8_tagOf_59 : decode cX8_tagOf 59 = .ok (.iconst 1, 1) := by decide +kernel
theorem dX8_tagOf_60 : decode cX8_tagOf 60 = .ok (.if_icmp .ne 16, 3) := by decide +kernel
theorem dX8_tagOf_63 : decode cX8_tagOf 63 = .ok (.aload_n 0, 1) := by decide +kernel
theorem dX8_tagOf_64 : decode cX8_tagOf 64 = .ok (.getfield 20, 3) := by decide +kernel
theorem dX8_tagOf_67 : decode cX8_tagOf 67 = .ok (.iload_n 2, 1) := by decide +kernel
theorem dX8_tagOf_68 : decode cX8_tagOf 68 = .ok (.iaload, 1) := by decide +kernel
theorem dX8_tagOf_69 : decode cX8_tagOf 69 = .ok (.iconst 2, 1) := by decide +kernel
theorem dX8_tagOf_70 : decode cX8_tagOf 70 = .ok (.if_icmp .ne 6, 3) := by decide +kernel
theorem dX8_tagOf_73 : decode cX8_tagOf 73 = .ok (.iload 5, 2) := by decide +kernel
theorem dX8_tagOf_75 : decode cX8_tagOf 75 = .ok (.istore_n 3, 1) := by decide +kernel
theorem dX8_tagOf_76 : decode cX8_tagOf 76 = .ok (.iinc 5 1, 3) := by decide +kernel
theorem dX8_tagOf_79 : decode cX8_tagOf 79 = .ok (.goto (-71), 3) := by decide +kernel
theorem dX8_tagOf_82 : decode cX8_tagOf 82 = .ok (.iload_n 3, 1) := by decide +kernel
theorem dX8_tagOf_83 : decode cX8_tagOf 83 = .ok (.ireturn, 1) := by decide +kernel
theorem dX8_tag_0 : decode cX8_tag 0 = .ok (.iload_n 1, 1) := by decide +kernel
theorem dX8_tag_1 : decode cX8_tag 1 = .ok (.ifCond .lt 19, 3) := by decide +kernel
theorem dX8_tag_4 : decode cX8_tag 4 = .ok (.iload_n 1, 1) := by decide +kernel
theorem dX8_tag_5 : decode cX8_tag 5 = .ok (.aload_n 0, 1) := by decide +kernel
theorem dX8_tag_6 : decode cX8_tag 6 = .ok (.getfield 187, 3) := by decide +kernel
theorem dX8_tag_9 : decode cX8_tag 9 = .ok (.if_icmp .ge 11, 3) := by decide +kernel
theorem dX8_tag_12 : decode cX8_tag 12 = .ok (.aload_n 0, 1) := by decide +kernel
theorem dX8_tag_13 : decode cX8_tag 13 = .ok (.iload_n 2, 1) := by decide +kernel
theorem dX8_tag_14 : decode cX8_tag 14 = .ok (.invokevirtual 139, 3) := by decide +kernel
theorem dX8_tag_17 : decode cX8_tag 17 = .ok (.ifCond .ne 8, 3) := by decide +kernel
theorem dX8_tag_20 : decode cX8_tag 20 = .ok (.bipush (-2), 2) := by decide +kernel
theorem dX8_tag_22 : decode cX8_tag 22 = .ok (.goto 9, 3) := by decide +kernel
theorem dX8_tag_25 : decode cX8_tag 25 = .ok (.aload_n 0, 1) := by decide +kernel
theorem dX8_tag_26 : decode cX8_tag 26 = .ok (.iload_n 1, 1) := by decide +kernel
theorem dX8_tag_27 : decode cX8_tag 27 = .ok (.iload_n 2, 1) := by decide +kernel
theorem dX8_tag_28 : decode cX8_tag 28 = .ok (.invokevirtual 190, 3) := by decide +kernel
theorem dX8_tag_31 : decode cX8_tag 31 = .ok (.ireturn, 1) := by decide +kernel
theorem dX8_tagged_0 : decode cX8_tagged 0 = .ok (.iload_n 1, 1) := by decide +kernel
theorem dX8_tagged_1 : decode cX8_tagged 1 = .ok (.ifCond .lt 21, 3) := by decide +kernel
theorem dX8_tagged_4 : decode cX8_tagged 4 = .ok (.iload_n 1, 1) := by decide +kernel
theorem dX8_tagged_5 : decode cX8_tagged 5 = .ok (.aload_n 0, 1) := by decide +kernel
theorem dX8_tagged_6 : decode cX8_tagged 6 = .ok (.getfield 187, 3) := by decide +kernel
theorem dX8_tagged_9 : decode cX8_tagged 9 = .ok (.if_icmp .ge 13, 3) := by decide +kernel
theorem dX8_tagged_12 : decode cX8_tagged 12 = .ok (.iload_n 2, 1) := by decide +kernel
theorem dX8_tagged_13 : decode cX8_tagged 13 = .ok (.iconst (-1), 1) := by decide +kernel
theorem dX8_tagged_14 : decode cX8_tagged 14 = .ok (.if_icmp .lt 8, 3) := by decide +kernel
theorem dX8_tagged_17 : decode cX8_tagged 17 = .ok (.iload_n 2, 1) := by decide +kernel
theorem dX8_tagged_18 : decode cX8_tagged 18 = .ok (.iconst 3, 1) := by decide +kernel
theorem dX8_tagged_19 : decode cX8_tagged 19 = .ok (.if_icmp .le 6, 3) := by decide +kernel
theorem dX8_tagged_22 : decode cX8_tagged 22 = .ok (.bipush (-2), 2) := by decide +kernel
theorem dX8_tagged_24 : decode cX8_tagged 24 = .ok (.ireturn, 1) := by decide +kernel
theorem dX8_tagged_25 : decode cX8_tagged 25 = .ok (.iconst 0, 1) := by decide +kernel
theorem dX8_tagged_26 : decode cX8_tagged 26 = .ok (.istore_n 3, 1) := by decide +kernel
theorem dX8_tagged_27 : decode cX8_tagged 27 = .ok (.iconst 0, 1) := by decide +kernel
theorem dX8_tagged_28 : decode cX8_tagged 28 = .ok (.istore 4, 2) := by decide +kernel
theorem dX8_tagged_30 : decode cX8_tagged 30 = .ok (.iload 4, 2) := by decide +kernel
theorem dX8_tagged_32 : decode cX8_tagged 32 = .ok (.aload_n 0, 1) := by decide +kernel
theorem dX8_tagged_33 : decode cX8_tagged 33 = .ok (.getfield 83, 3) := by decide +kernel
theorem dX8_tagged_36 : decode cX8_tagged 36 = .ok (.if_icmp .ge 28, 3) := by decide +kernel
theorem dX8_tagged_39 : decode cX8_tagged 39 = .ok (.iload_n 3, 1) := by decide +kernel
theorem dX8_tagged_40 : decode cX8_tagged 40 = .ok (.aload_n 0, 1) := by decide +kernel
theorem dX8_tagged_41 : decode cX8_tagged 41 = .ok (.iload_n 1, 1) := by decide +kernel
theorem dX8_tagged_42 : decode cX8_tagged 42 = .ok (.iload 4, 2) := by decide +kernel
theorem dX8_tagged_44 : decode cX8_tagged 44 = .ok (.invokevirtual 190, 3) := by decide +kernel
theorem dX8_tagged_47 : decode cX8_tagged 47 = .ok (.iload_n 2, 1) := by decide +kernel
theorem dX8_tagged_48 : decode cX8_tagged 48 = .ok (.if_icmp .ne 7, 3) := by decide +kernel
theorem dX8_tagged_51 : decode cX8_tagged 51 = .ok (.iconst 1, 1) := by decide +kernel
theorem dX8_tagged_52 : decode cX8_tagged 52 = .ok (.goto 4, 3) := by decide +kernel
theorem dX8_tagged_55 : decode cX8_tagged 55 = .ok (.iconst 0, 1) := by decide +kernel
theorem dX8_tagged_56 : decode cX8_tagged 56 = .ok (.iadd, 1) := by decide +kernel
theorem dX8_tagged_57 : decode cX8_tagged 57 = .ok (.istore_n 3, 1) := by decide +kernel
theorem dX8_tagged_58 : decode cX8_tagged 58 = .ok (.iinc 4 1, 3) := by decide +kernel
theorem dX8_tagged_61 : decode cX8_tagged 61 = .ok (.goto (-31), 3) := by decide +kernel
theorem dX8_tagged_64 : decode cX8_tagged 64 = .ok (.iload_n 3, 1) := by decide +kernel
theorem dX8_tagged_65 : decode cX8_tagged 65 = .ok (.ireturn, 1) := by decide +kernel
theorem dX8_isEnumeration_0 : decode cX8_isEnumeration 0 = .ok (.iload_n 0, 1) := by decide +kernel
theorem dX8_isEnumeration_1 : decode cX8_isEnumeration 1 = .ok (.ifCond .lt 12, 3) := by decide +kernel
theorem dX8_isEnumeration_4 : decode cX8_isEnumeration 4 = .ok (.iload_n 0, 1) := by decide +kernel
theorem dX8_isEnumeration_5 : decode cX8_isEnumeration 5 = .ok (.iconst 4, 1) := by decide +kernel
theorem dX8_isEnumeration_6 : decode cX8_isEnumeration 6 = .ok (.if_icmp .ge 7, 3) := by decide +kernel
theorem dX8_isEnumeration_9 : decode cX8_isEnumeration 9 = .ok (.iconst 1, 1) := by decide +kernel
theorem dX8_isEnumeration_10 : decode cX8_isEnumeration 10 = .ok (.goto 4, 3) := by decide +kernel
theorem dX8_isEnumeration_13 : decode cX8_isEnumeration 13 = .ok (.iconst 0, 1) := by decide +kernel
theorem dX8_isEnumeration_14 : decode cX8_isEnumeration 14 = .ok (.ireturn, 1) := by decide +kernel
theorem dX8_isConstant_0 : decode cX8_isConstant 0 = .ok (.iload_n 1, 1) := by decide +kernel
theorem dX8_isConstant_1 : decode cX8_isConstant 1 = .ok (.ifCond .lt 15, 3) := by decide +kernel
theorem dX8_isConstant_4 : decode cX8_isConstant 4 = .ok (.iload_n 1, 1) := by decide +kernel
theorem dX8_isConstant_5 : decode cX8_isConstant 5 = .ok (.aload_n 0, 1) := by decide +kernel
theorem dX8_isConstant_6 : decode cX8_isConstant 6 = .ok (.getfield 193, 3) := by decide +kernel
theorem dX8_isConstant_9 : decode cX8_isConstant 9 = .ok (.if_icmp .ge 7, 3) := by decide +kernel
theorem dX8_isConstant_12 : decode cX8_isConstant 12 = .ok (.iconst 1, 1) := by decide +kernel
theorem dX8_isConstant_13 : decode cX8_isConstant 13 = .ok (.goto 4, 3) := by decide +kernel
theorem dX8_isConstant_16 : decode cX8_isConstant 16 = .ok (.iconst 0, 1) := by decide +kernel
theorem dX8_isConstant_17 : decode cX8_isConstant 17 = .ok (.ireturn, 1) := by decide +kernel
theorem dX8_constantAt_0 : decode cX8_constantAt 0 = .ok (.iconst 0, 1) := by decide +kernel
theorem dX8_constantAt_1 : decode cX8_constantAt 1 = .ok (.istore_n 3, 1) := by decide +kernel
theorem dX8_constantAt_2 : decode cX8_constantAt 2 = .ok (.iload_n 3, 1) := by decide +kernel
theorem dX8_constantAt_3 : decode cX8_constantAt 3 = .ok (.aload_n 0, 1) := by decide +kernel
theorem dX8_constantAt_4 : decode cX8_constantAt 4 = .ok (.getfield 193, 3) := by decide +kernel
theorem dX8_constantAt_7 : decode cX8_constantAt 7 = .ok (.if_icmp .ge 31, 3) := by decide +kernel
theorem dX8_constantAt_10 : decode cX8_constantAt 10 = .ok (.aload_n 0, 1) := by decide +kernel
theorem dX8_constantAt_11 : decode cX8_constantAt 11 = .ok (.getfield 49, 3) := by decide +kernel
theorem dX8_constantAt_14 : decode cX8_constantAt 14 = .ok (.iload_n 3, 1) := by decide +kernel
theorem dX8_constantAt_15 : decode cX8_constantAt 15 = .ok (.iaload, 1) := by decide +kernel
theorem dX8_constantAt_16 : decode cX8_constantAt 16 = .ok (.iload_n 1, 1) := by decide +kernel
theorem dX8_constantAt_17 : decode cX8_constantAt 17 = .ok (.if_icmp .ne 15, 3) := by decide +kernel
theorem dX8_constantAt_20 : decode cX8_constantAt 20 = .ok (.aload_n 0, 1) := by decide +kernel
theorem dX8_constantAt_21 : decode cX8_constantAt 21 = .ok (.getfield 55, 3) := by decide +kernel
theorem dX8_constantAt_24 : decode cX8_constantAt 24 = .ok (.iload_n 3, 1) := by decide +kernel
theorem dX8_constantAt_25 : decode cX8_constantAt 25 = .ok (.iaload, 1) := by decide +kernel
theorem dX8_constantAt_26 : decode cX8_constantAt 26 = .ok (.iload_n 2, 1) := by decide +kernel
theorem dX8_constantAt_27 : decode cX8_constantAt 27 = .ok (.if_icmp .ne 5, 3) := by decide +kernel
theorem dX8_constantAt_30 : decode cX8_constantAt 30 = .ok (.iload_n 3, 1) := by decide +kernel
theorem dX8_constantAt_31 : decode cX8_constantAt 31 = .ok (.ireturn, 1) := by decide +kernel
theorem dX8_constantAt_32 : decode cX8_constantAt 32 = .ok (.iinc 3 1, 3) := by decide +kernel
theorem dX8_constantAt_35 : decode cX8_constantAt 35 = .ok (.goto (-33), 3) := by decide +kernel
theorem dX8_constantAt_38 : decode cX8_constantAt 38 = .ok (.iconst (-1), 1) := by decide +kernel
theorem dX8_constantAt_39 : decode cX8_constantAt 39 = .ok (.ireturn, 1) := by decide +kernel
theorem dX8_constantOf_0 : decode cX8_constantOf 0 = .ok (.iconst 0, 1) := by decide +kernel
theorem dX8_constantOf_1 : decode cX8_constantOf 1 = .ok (.istore_n 3, 1) := by decide +kernel
theorem dX8_constantOf_2 : decode cX8_constantOf 2 = .ok (.iload_n 3, 1) := by decide +kernel
theorem dX8_constantOf_3 : decode cX8_constantOf 3 = .ok (.aload_n 0, 1) := by decide +kernel
theorem dX8_constantOf_4 : decode cX8_constantOf 4 = .ok (.getfield 193, 3) := by decide +kernel
theorem dX8_constantOf_7 : decode cX8_constantOf 7 = .ok (.if_icmp .ge 41, 3) := by decide +kernel
theorem dX8_constantOf_10 : decode cX8_constantOf 10 = .ok (.aload_n 0, 1) := by decide +kernel
theorem dX8_constantOf_11 : decode cX8_constantOf 11 = .ok (.getfield 49, 3) := by decide +kernel
theorem dX8_constantOf_14 : decode cX8_constantOf 14 = .ok (.iload_n 3, 1) := by decide +kernel
theorem dX8_constantOf_15 : decode cX8_constantOf 15 = .ok (.iaload, 1) := by decide +kernel
theorem dX8_constantOf_16 : decode cX8_constantOf 16 = .ok (.iload_n 1, 1) := by decide +kernel
theorem dX8_constantOf_17 : decode cX8_constantOf 17 = .ok (.if_icmp .ne 25, 3) := by decide +kernel
theorem dX8_constantOf_20 : decode cX8_constantOf 20 = .ok (.aload_n 0, 1) := by decide +kernel
theorem dX8_constantOf_21 : decode cX8_constantOf 21 = .ok (.getfield 52, 3) := by decide +kernel
theorem dX8_constantOf_24 : decode cX8_constantOf 24 = .ok (.iload_n 3, 1) := by decide +kernel
theorem dX8_constantOf_25 : decode cX8_constantOf 25 = .ok (.iaload, 1) := by decide +kernel
theorem dX8_constantOf_26 : decode cX8_constantOf 26 = .ok (.iload_n 2, 1) := by decide +kernel
theorem dX8_constantOf_27 : decode cX8_constantOf 27 = .ok (.if_icmp .ne 15, 3) := by decide +kernel
theorem dX8_constantOf_30 : decode cX8_constantOf 30 = .ok (.aload_n 0, 1) := by decide +kernel
theorem dX8_constantOf_31 : decode cX8_constantOf 31 = .ok (.getfield 55, 3) := by decide +kernel
theorem dX8_constantOf_34 : decode cX8_constantOf 34 = .ok (.iload_n 3, 1) := by decide +kernel
theorem dX8_constantOf_35 : decode cX8_constantOf 35 = .ok (.iaload, 1) := by decide +kernel
theorem dX8_constantOf_36 : decode cX8_constantOf 36 = .ok (.iconst (-1), 1) := by decide +kernel
theorem dX8_constantOf_37 : decode cX8_constantOf 37 = .ok (.if_icmp .eq 5, 3) := by decide +kernel
theorem dX8_constantOf_40 : decode cX8_constantOf 40 = .ok (.iload_n 3, 1) := by decide +kernel
theorem dX8_constantOf_41 : decode cX8_constantOf 41 = .ok (.ireturn, 1) := by decide +kernel
theorem dX8_constantOf_42 : decode cX8_constantOf 42 = .ok (.iinc 3 1, 3) := by decide +kernel
theorem dX8_constantOf_45 : decode cX8_constantOf 45 = .ok (.goto (-43), 3) := by decide +kernel
theorem dX8_constantOf_48 : decode cX8_constantOf 48 = .ok (.iconst (-1), 1) := by decide +kernel
theorem dX8_constantOf_49 : decode cX8_constantOf 49 = .ok (.ireturn, 1) := by decide +kernel
theorem dX8_constant_0 : decode cX8_constant 0 = .ok (.iload_n 1, 1) := by decide +kernel
theorem dX8_constant_1 : decode cX8_constant 1 = .ok (.invokestatic 196, 3) := by decide +kernel
theorem dX8_constant_4 : decode cX8_constant 4 = .ok (.ifCond .eq 24, 3) := by decide +kernel
theorem dX8_constant_7 : decode cX8_constant 7 = .ok (.iload_n 2, 1) := by decide +kernel
theorem dX8_constant_8 : decode cX8_constant 8 = .ok (.ifCond .lt 20, 3) := by decide +kernel
theorem dX8_constant_11 : decode cX8_constant 11 = .ok (.iload_n 2, 1) := by decide +kernel
theorem dX8_constant_12 : decode cX8_constant 12 = .ok (.sipush 10000, 3) := by decide +kernel
theorem dX8_constant_15 : decode cX8_constant 15 = .ok (.if_icmp .ge 13, 3) := by decide +kernel
theorem dX8_constant_18 : decode cX8_constant 18 = .ok (.aload_n 0, 1) := by decide +kernel
theorem dX8_constant_19 : decode cX8_constant 19 = .ok (.iload_n 1, 1) := by decide +kernel
theorem dX8_constant_20 : decode cX8_constant 20 = .ok (.iload_n 2, 1) := by decide +kernel
theorem dX8_constant_21 : decode cX8_constant 21 = .ok (.invokevirtual 199, 3) := by decide +kernel
theorem dX8_constant_24 : decode cX8_constant 24 = .ok (.iconst (-1), 1) := by decide +kernel
theorem dX8_constant_25 : decode cX8_constant 25 = .ok (.if_icmp .eq 6, 3) := by decide +kernel
theorem dX8_constant_28 : decode cX8_constant 28 = .ok (.bipush (-2), 2) := by decide +kernel
theorem dX8_constant_30 : decode cX8_constant 30 = .ok (.ireturn, 1) := by decide +kernel
theorem dX8_constant_31 : decode cX8_constant 31 = .ok (.aload_n 0, 1) := by decide +kernel
theorem dX8_constant_32 : decode cX8_constant 32 = .ok (.getfield 193, 3) := by decide +kernel
theorem dX8_constant_35 : decode cX8_constant 35 = .ok (.bipush 60, 2) := by decide +kernel
theorem dX8_constant_37 : decode cX8_constant 37 = .ok (.if_icmp .ne 6, 3) := by decide +kernel
theorem dX8_constant_40 : decode cX8_constant 40 = .ok (.bipush (-3), 2) := by decide +kernel
theorem dX8_constant_42 : decode cX8_constant 42 = .ok (.ireturn, 1) := by decide +kernel
theorem dX8_constant_43 : decode cX8_constant 43 = .ok (.aload_n 0, 1) := by decide +kernel
theorem dX8_constant_44 : decode cX8_constant 44 = .ok (.getfield 49, 3) := by decide +kernel
theorem dX8_constant_47 : decode cX8_constant 47 = .ok (.aload_n 0, 1) := by decide +kernel
theorem dX8_constant_48 : decode cX8_constant 48 = .ok (.getfield 193, 3) := by decide +kernel
theorem dX8_constant_51 : decode cX8_constant 51 = .ok (.iload_n 1, 1) := by decide +kernel
theorem dX8_constant_52 : decode cX8_constant 52 = .ok (.iastore, 1) := by decide +kernel
theorem dX8_constant_53 : decode cX8_constant 53 = .ok (.aload_n 0, 1) := by decide +kernel
theorem dX8_constant_54 : decode cX8_constant 54 = .ok (.getfield 52, 3) := by decide +kernel
theorem dX8_constant_57 : decode cX8_constant 57 = .ok (.aload_n 0, 1) := by decide +kernel
theorem dX8_constant_58 : decode cX8_constant 58 = .ok (.getfield 193, 3) := by decide +kernel
theorem dX8_constant_61 : decode cX8_constant 61 = .ok (.iload_n 2, 1) := by decide +kernel
theorem dX8_constant_62 : decode cX8_constant 62 = .ok (.iastore, 1) := by decide +kernel
theorem dX8_constant_63 : decode cX8_constant 63 = .ok (.aload_n 0, 1) := by decide +kernel
theorem dX8_constant_64 : decode cX8_constant 64 = .ok (.getfield 55, 3) := by decide +kernel
theorem dX8_constant_67 : decode cX8_constant 67 = .ok (.aload_n 0, 1) := by decide +kernel
theorem dX8_constant_68 : decode cX8_constant 68 = .ok (.getfield 193, 3) := by decide +kernel
theorem dX8_constant_71 : decode cX8_constant 71 = .ok (.aload_n 0, 1) := by decide +kernel
theorem dX8_constant_72 : decode cX8_constant 72 = .ok (.getfield 58, 3) := by decide +kernel
theorem dX8_constant_75 : decode cX8_constant 75 = .ok (.iload_n 1, 1) := by decide +kernel
theorem dX8_constant_76 : decode cX8_constant 76 = .ok (.iaload, 1) := by decide +kernel
theorem dX8_constant_77 : decode cX8_constant 77 = .ok (.iastore, 1) := by decide +kernel
theorem dX8_constant_78 : decode cX8_constant 78 = .ok (.aload_n 0, 1) := by decide +kernel
theorem dX8_constant_79 : decode cX8_constant 79 = .ok (.getfield 58, 3) := by decide +kernel
theorem dX8_constant_82 : decode cX8_constant 82 = .ok (.iload_n 1, 1) := by decide +kernel
theorem dX8_constant_83 : decode cX8_constant 83 = .ok (.dup2, 1) := by decide +kernel
theorem dX8_constant_84 : decode cX8_constant 84 = .ok (.iaload, 1) := by decide +kernel
theorem dX8_constant_85 : decode cX8_constant 85 = .ok (.iconst 1, 1) := by decide +kernel
theorem dX8_constant_86 : decode cX8_constant 86 = .ok (.iadd, 1) := by decide +kernel
theorem dX8_constant_87 : decode cX8_constant 87 = .ok (.iastore, 1) := by decide +kernel
theorem dX8_constant_88 : decode cX8_constant 88 = .ok (.aload_n 0, 1) := by decide +kernel
theorem dX8_constant_89 : decode cX8_constant 89 = .ok (.dup, 1) := by decide +kernel
theorem dX8_constant_90 : decode cX8_constant 90 = .ok (.getfield 193, 3) := by decide +kernel
theorem dX8_constant_93 : decode cX8_constant 93 = .ok (.iconst 1, 1) := by decide +kernel
theorem dX8_constant_94 : decode cX8_constant 94 = .ok (.iadd, 1) := by decide +kernel
theorem dX8_constant_95 : decode cX8_constant 95 = .ok (.putfield 193, 3) := by decide +kernel
theorem dX8_constant_98 : decode cX8_constant 98 = .ok (.aload_n 0, 1) := by decide +kernel
theorem dX8_constant_99 : decode cX8_constant 99 = .ok (.getfield 193, 3) := by decide +kernel
theorem dX8_constant_102 : decode cX8_constant 102 = .ok (.iconst 1, 1) := by decide +kernel
theorem dX8_constant_103 : decode cX8_constant 103 = .ok (.isub, 1) := by decide +kernel
theorem dX8_constant_104 : decode cX8_constant 104 = .ok (.ireturn, 1) := by decide +kernel
theorem dX8_named_0 : decode cX8_named 0 = .ok (.aload_n 0, 1) := by decide +kernel
theorem dX8_named_1 : decode cX8_named 1 = .ok (.invokevirtual 116, 3) := by decide +kernel
theorem dX8_named_4 : decode cX8_named 4 = .ok (.iload_n 1, 1) := by decide +kernel
theorem dX8_named_5 : decode cX8_named 5 = .ok (.invokestatic 196, 3) := by decide +kernel
theorem dX8_named_8 : decode cX8_named 8 = .ok (.ifCond .ne 6, 3) := by decide +kernel
theorem dX8_named_11 : decode cX8_named 11 = .ok (.bipush (-2), 2) := by decide +kernel
theorem dX8_named_13 : decode cX8_named 13 = .ok (.ireturn, 1) := by decide +kernel
theorem dX8_named_14 : decode cX8_named 14 = .ok (.aload_n 0, 1) := by decide +kernel
theorem dX8_named_15 : decode cX8_named 15 = .ok (.iload_n 1, 1) := by decide +kernel
theorem dX8_named_16 : decode cX8_named 16 = .ok (.iload_n 2, 1) := by decide +kernel
theorem dX8_named_17 : decode cX8_named 17 = .ok (.invokevirtual 199, 3) := by decide +kernel
theorem dX8_named_20 : decode cX8_named 20 = .ok (.istore_n 3, 1) := by decide +kernel
theorem dX8_named_21 : decode cX8_named 21 = .ok (.iload_n 3, 1) := by decide +kernel
theorem dX8_named_22 : decode cX8_named 22 = .ok (.iconst (-1), 1) := by decide +kernel
theorem dX8_named_23 : decode cX8_named 23 = .ok (.if_icmp .ne 13, 3) := by decide +kernel
theorem dX8_named_26 : decode cX8_named 26 = .ok (.aload_n 0, 1) := by decide +kernel
theorem dX8_named_27 : decode cX8_named 27 = .ok (.iconst 1, 1) := by decide +kernel
theorem dX8_named_28 : decode cX8_named 28 = .ok (.iconst (-1), 1) := by decide +kernel
theorem dX8_named_29 : decode cX8_named 29 = .ok (.iconst 0, 1) := by decide +kernel
theorem dX8_named_30 : decode cX8_named 30 = .ok (.invokevirtual 135, 3) := by decide +kernel
theorem dX8_named_33 : decode cX8_named 33 = .ok (.goto 4, 3) := by decide +kernel
theorem dX8_named_36 : decode cX8_named 36 = .ok (.iload_n 3, 1) := by decide +kernel
theorem dX8_named_37 : decode cX8_named 37 = .ok (.ireturn, 1) := by decide +kernel
theorem dX8_drop_0 : decode cX8_drop 0 = .ok (.aload_n 0, 1) := by decide +kernel
theorem dX8_drop_1 : decode cX8_drop 1 = .ok (.iload_n 1, 1) := by decide +kernel
theorem dX8_drop_2 : decode cX8_drop 2 = .ok (.invokevirtual 202, 3) := by decide +kernel
theorem dX8_drop_5 : decode cX8_drop 5 = .ok (.ifCond .eq 13, 3) := by decide +kernel
theorem dX8_drop_8 : decode cX8_drop 8 = .ok (.aload_n 0, 1) := by decide +kernel
theorem dX8_drop_9 : decode cX8_drop 9 = .ok (.getfield 55, 3) := by decide +kernel
theorem dX8_drop_12 : decode cX8_drop 12 = .ok (.iload_n 1, 1) := by decide +kernel
theorem dX8_drop_13 : decode cX8_drop 13 = .ok (.iaload, 1) := by decide +kernel
theorem dX8_drop_14 : decode cX8_drop 14 = .ok (.iconst (-1), 1) := by decide +kernel
theorem dX8_drop_15 : decode cX8_drop 15 = .ok (.if_icmp .ne 6, 3) := by decide +kernel
theorem dX8_drop_18 : decode cX8_drop 18 = .ok (.bipush (-2), 2) := by decide +kernel
theorem dX8_drop_20 : decode cX8_drop 20 = .ok (.ireturn, 1) := by decide +kernel
theorem dX8_drop_21 : decode cX8_drop 21 = .ok (.aload_n 0, 1) := by decide +kernel
theorem dX8_drop_22 : decode cX8_drop 22 = .ok (.getfield 49, 3) := by decide +kernel
theorem dX8_drop_25 : decode cX8_drop 25 = .ok (.iload_n 1, 1) := by decide +kernel
theorem dX8_drop_26 : decode cX8_drop 26 = .ok (.iaload, 1) := by decide +kernel
theorem dX8_drop_27 : decode cX8_drop 27 = .ok (.istore_n 2, 1) := by decide +kernel
theorem dX8_drop_28 : decode cX8_drop 28 = .ok (.iconst 0, 1) := by decide +kernel
theorem dX8_drop_29 : decode cX8_drop 29 = .ok (.istore_n 3, 1) := by decide +kernel
theorem dX8_drop_30 : decode cX8_drop 30 = .ok (.iload_n 3, 1) := by decide +kernel
theorem dX8_drop_31 : decode cX8_drop 31 = .ok (.aload_n 0, 1) := by decide +kernel
theorem dX8_drop_32 : decode cX8_drop 32 = .ok (.getfield 193, 3) := by decide +kernel
theorem dX8_drop_35 : decode cX8_drop 35 = .ok (.if_icmp .ge 48, 3) := by decide +kernel
theorem dX8_drop_38 : decode cX8_drop 38 = .ok (.aload_n 0, 1) := by decide +kernel
theorem dX8_drop_39 : decode cX8_drop 39 = .ok (.getfield 55, 3) := by decide +kernel
theorem dX8_drop_42 : decode cX8_drop 42 = .ok (.iload_n 3, 1) := by decide +kernel
theorem dX8_drop_43 : decode cX8_drop 43 = .ok (.dup2, 1) := by decide +kernel
theorem dX8_drop_44 : decode cX8_drop 44 = .ok (.iaload, 1) := by decide +kernel
theorem dX8_drop_45 : decode cX8_drop 45 = .ok (.aload_n 0, 1) := by decide +kernel
theorem dX8_drop_46 : decode cX8_drop 46 = .ok (.getfield 49, 3) := by decide +kernel
theorem dX8_drop_49 : decode cX8_drop 49 = .ok (.iload_n 3, 1) := by decide +kernel
theorem dX8_drop_50 : decode cX8_drop 50 = .ok (.iaload, 1) := by decide +kernel
theorem dX8_drop_51 : decode cX8_drop 51 = .ok (.iload_n 2, 1) := by decide +kernel
theorem dX8_drop_52 : decode cX8_drop 52 = .ok (.if_icmp .ne 22, 3) := by decide +kernel
theorem dX8_drop_55 : decode cX8_drop 55 = .ok (.aload_n 0, 1) := by decide +kernel
theorem dX8_drop_56 : decode cX8_drop 56 = .ok (.getfield 55, 3) := by decide +kernel
theorem dX8_drop_59 : decode cX8_drop 59 = .ok (.iload_n 3, 1) := by decide +kernel
theorem dX8_drop_60 : decode cX8_drop 60 = .ok (.iaload, 1) := by decide +kernel
theorem dX8_drop_61 : decode cX8_drop 61 = .ok (.aload_n 0, 1) := by decide +kernel
theorem dX8_drop_62 : decode cX8_drop 62 = .ok (.getfield 55, 3) := by decide +kernel
theorem dX8_drop_65 : decode cX8_drop 65 = .ok (.iload_n 1, 1) := by decide +kernel
theorem dX8_drop_66 : decode cX8_drop 66 = .ok (.iaload, 1) := by decide +kernel
theorem dX8_drop_67 : decode cX8_drop 67 = .ok (.if_icmp .le 7, 3) := by decide +kernel
theorem dX8_drop_70 : decode cX8_drop 70 = .ok (.iconst 1, 1) := by decide +kernel
theorem dX8_drop_71 : decode cX8_drop 71 = .ok (.goto 4, 3) := by decide +kernel
theorem dX8_drop_74 : decode cX8_drop 74 = .ok (.iconst 0, 1) := by decide +kernel
theorem dX8_drop_75 : decode cX8_drop 75 = .ok (.isub, 1) := by decide +kernel
theorem dX8_drop_76 : decode cX8_drop 76 = .ok (.iastore, 1) := by decide +kernel
theorem dX8_drop_77 : decode cX8_drop 77 = .ok (.iinc 3 1, 3) := by decide +kernel
theorem dX8_drop_80 : decode cX8_drop 80 = .ok (.goto (-50), 3) := by decide +kernel
theorem dX8_drop_83 : decode cX8_drop 83 = .ok (.aload_n 0, 1) := by decide +kernel
theorem dX8_drop_84 : decode cX8_drop 84 = .ok (.getfield 55, 3) := by decide +kernel
theorem dX8_drop_87 : decode cX8_drop 87 = .ok (.iload_n 1, 1) := by decide +kernel
theorem dX8_drop_88 : decode cX8_drop 88 = .ok (.iconst (-1), 1) := by decide +kernel
theorem dX8_drop_89 : decode cX8_drop 89 = .ok (.iastore, 1) := by decide +kernel
theorem dX8_drop_90 : decode cX8_drop 90 = .ok (.aload_n 0, 1) := by decide +kernel
theorem dX8_drop_91 : decode cX8_drop 91 = .ok (.getfield 58, 3) := by decide +kernel
theorem dX8_drop_94 : decode cX8_drop 94 = .ok (.iload_n 2, 1) := by decide +kernel
theorem dX8_drop_95 : decode cX8_drop 95 = .ok (.dup2, 1) := by decide +kernel
theorem dX8_drop_96 : decode cX8_drop 96 = .ok (.iaload, 1) := by decide +kernel
theorem dX8_drop_97 : decode cX8_drop 97 = .ok (.iconst 1, 1) := by decide +kernel
theorem dX8_drop_98 : decode cX8_drop 98 = .ok (.isub, 1) := by decide +kernel
theorem dX8_drop_99 : decode cX8_drop 99 = .ok (.iastore, 1) := by decide +kernel
theorem dX8_drop_100 : decode cX8_drop 100 = .ok (.aload_n 0, 1) := by decide +kernel
theorem dX8_drop_101 : decode cX8_drop 101 = .ok (.getfield 58, 3) := by decide +kernel
theorem dX8_drop_104 : decode cX8_drop 104 = .ok (.iload_n 2, 1) := by decide +kernel
theorem dX8_drop_105 : decode cX8_drop 105 = .ok (.iaload, 1) := by decide +kernel
theorem dX8_drop_106 : decode cX8_drop 106 = .ok (.ireturn, 1) := by decide +kernel
theorem dX8_reorder_0 : decode cX8_reorder 0 = .ok (.iload_n 1, 1) := by decide +kernel
theorem dX8_reorder_1 : decode cX8_reorder 1 = .ok (.invokestatic 196, 3) := by decide +kernel
theorem dX8_reorder_4 : decode cX8_reorder 4 = .ok (.ifCond .ne 6, 3) := by decide +kernel
theorem dX8_reorder_7 : decode cX8_reorder 7 = .ok (.bipush (-2), 2) := by decide +kernel
theorem dX8_reorder_9 : decode cX8_reorder 9 = .ok (.ireturn, 1) := by decide +kernel
theorem dX8_reorder_10 : decode cX8_reorder 10 = .ok (.aload_n 0, 1) := by decide +kernel
theorem dX8_reorder_11 : decode cX8_reorder 11 = .ok (.getfield 58, 3) := by decide +kernel
theorem dX8_reorder_14 : decode cX8_reorder 14 = .ok (.iload_n 1, 1) := by decide +kernel
theorem dX8_reorder_15 : decode cX8_reorder 15 = .ok (.iaload, 1) := by decide +kernel
theorem dX8_reorder_16 : decode cX8_reorder 16 = .ok (.iconst 1, 1) := by decide +kernel
theorem dX8_reorder_17 : decode cX8_reorder 17 = .ok (.isub, 1) := by decide +kernel
theorem dX8_reorder_18 : decode cX8_reorder 18 = .ok (.istore_n 2, 1) := by decide +kernel
theorem dX8_reorder_19 : decode cX8_reorder 19 = .ok (.iload_n 2, 1) := by decide +kernel
theorem dX8_reorder_20 : decode cX8_reorder 20 = .ok (.ifCond .le 79, 3) := by decide +kernel
theorem dX8_reorder_23 : decode cX8_reorder 23 = .ok (.aload_n 0, 1) := by decide +kernel
theorem dX8_reorder_24 : decode cX8_reorder 24 = .ok (.aload_n 0, 1) := by decide +kernel
theorem dX8_reorder_25 : decode cX8_reorder 25 = .ok (.getfield 61, 3) := by decide +kernel
theorem dX8_reorder_28 : decode cX8_reorder 28 = .ok (.ldc2_w 205, 3) := by decide +kernel
theorem dX8_reorder_31 : decode cX8_reorder 31 = .ok (.lmul, 1) := by decide +kernel
theorem dX8_reorder_32 : decode cX8_reorder 32 = .ok (.ldc2_w 207, 3) := by decide +kernel
theorem dX8_reorder_35 : decode cX8_reorder 35 = .ok (.lrem, 1) := by decide +kernel
theorem dX8_reorder_36 : decode cX8_reorder 36 = .ok (.putfield 61, 3) := by decide +kernel
theorem dX8_reorder_39 : decode cX8_reorder 39 = .ok (.aload_n 0, 1) := by decide +kernel
theorem dX8_reorder_40 : decode cX8_reorder 40 = .ok (.getfield 61, 3) := by decide +kernel
theorem dX8_reorder_43 : decode cX8_reorder 43 = .ok (.iload_n 2, 1) := by decide +kernel
theorem dX8_reorder_44 : decode cX8_reorder 44 = .ok (.iconst 1, 1) := by decide +kernel
theorem dX8_reorder_45 : decode cX8_reorder 45 = .ok (.iadd, 1) := by decide +kernel
theorem dX8_reorder_46 : decode cX8_reorder 46 = .ok (.i2l, 1) := by decide +kernel
theorem dX8_reorder_47 : decode cX8_reorder 47 = .ok (.lrem, 1) := by decide +kernel
theorem dX8_reorder_48 : decode cX8_reorder 48 = .ok (.l2i, 1) := by decide +kernel
theorem dX8_reorder_49 : decode cX8_reorder 49 = .ok (.istore_n 3, 1) := by decide +kernel
theorem dX8_reorder_50 : decode cX8_reorder 50 = .ok (.aload_n 0, 1) := by decide +kernel
theorem dX8_reorder_51 : decode cX8_reorder 51 = .ok (.iload_n 1, 1) := by decide +kernel
theorem dX8_reorder_52 : decode cX8_reorder 52 = .ok (.iload_n 2, 1) := by decide +kernel
theorem dX8_reorder_53 : decode cX8_reorder 53 = .ok (.invokevirtual 209, 3) := by decide +kernel
theorem dX8_reorder_56 : decode cX8_reorder 56 = .ok (.istore 4, 2) := by decide +kernel
theorem dX8_reorder_58 : decode cX8_reorder 58 = .ok (.aload_n 0, 1) := by decide +kernel
theorem dX8_reorder_59 : decode cX8_reorder 59 = .ok (.iload_n 1, 1) := by decide +kernel
theorem dX8_reorder_60 : decode cX8_reorder 60 = .ok (.iload_n 3, 1) := by decide +kernel
theorem dX8_reorder_61 : decode cX8_reorder 61 = .ok (.invokevirtual 209, 3) := by decide +kernel
theorem dX8_reorder_64 : decode cX8_reorder 64 = .ok (.istore 5, 2) := by decide +kernel
theorem dX8_reorder_66 : decode cX8_reorder 66 = .ok (.aload_n 0, 1) := by decide +kernel
theorem dX8_reorder_67 : decode cX8_reorder 67 = .ok (.getfield 55, 3) := by decide +kernel
theorem dX8_reorder_70 : decode cX8_reorder 70 = .ok (.iload 4, 2) := by decide +kernel
theorem dX8_reorder_72 : decode cX8_reorder 72 = .ok (.iload_n 3, 1) := by decide +kernel
theorem dX8_reorder_73 : decode cX8_reorder 73 = .ok (.iastore, 1) := by decide +kernel
theorem dX8_reorder_74 : decode cX8_reorder 74 = .ok (.aload_n 0, 1) := by decide +kernel
theorem dX8_reorder_75 : decode cX8_reorder 75 = .ok (.getfield 55, 3) := by decide +kernel
theorem dX8_reorder_78 : decode cX8_reorder 78 = .ok (.iload 5, 2) := by decide +kernel
theorem dX8_reorder_80 : decode cX8_reorder 80 = .ok (.iload 4, 2) := by decide +kernel
theorem dX8_reorder_82 : decode cX8_reorder 82 = .ok (.iload 5, 2) := by decide +kernel
theorem dX8_reorder_84 : decode cX8_reorder 84 = .ok (.if_icmp .ne 7, 3) := by decide +kernel
theorem dX8_reorder_87 : decode cX8_reorder 87 = .ok (.iload_n 3, 1) := by decide +kernel
theorem dX8_reorder_88 : decode cX8_reorder 88 = .ok (.goto 4, 3) := by decide +kernel
theorem dX8_reorder_91 : decode cX8_reorder 91 = .ok (.iload_n 2, 1) := by decide +kernel
theorem dX8_reorder_92 : decode cX8_reorder 92 = .ok (.iastore, 1) := by decide +kernel
theorem dX8_reorder_93 : decode cX8_reorder 93 = .ok (.iinc 2 (-1), 3) := by decide +kernel
theorem dX8_reorder_96 : decode cX8_reorder 96 = .ok (.goto (-77), 3) := by decide +kernel
theorem dX8_reorder_99 : decode cX8_reorder 99 = .ok (.aload_n 0, 1) := by decide +kernel
theorem dX8_reorder_100 : decode cX8_reorder 100 = .ok (.getfield 58, 3) := by decide +kernel
theorem dX8_reorder_103 : decode cX8_reorder 103 = .ok (.iload_n 1, 1) := by decide +kernel
theorem dX8_reorder_104 : decode cX8_reorder 104 = .ok (.iaload, 1) := by decide +kernel
theorem dX8_reorder_105 : decode cX8_reorder 105 = .ok (.ireturn, 1) := by decide +kernel
theorem dX8_seed_0 : decode cX8_seed 0 = .ok (.iload_n 1, 1) := by decide +kernel
theorem dX8_seed_1 : decode cX8_seed 1 = .ok (.iconst 1, 1) := by decide +kernel
theorem dX8_seed_2 : decode cX8_seed 2 = .ok (.if_icmp .lt 9, 3) := by decide +kernel
theorem dX8_seed_5 : decode cX8_seed 5 = .ok (.iload_n 1, 1) := by decide +kernel
theorem dX8_seed_6 : decode cX8_seed 6 = .ok (.ldc 212, 2) := by decide +kernel
theorem dX8_seed_8 : decode cX8_seed 8 = .ok (.if_icmp .ne 6, 3) := by decide +kernel
theorem dX8_seed_11 : decode cX8_seed 11 = .ok (.bipush (-2), 2) := by decide +kernel
theorem dX8_seed_13 : decode cX8_seed 13 = .ok (.ireturn, 1) := by decide +kernel
theorem dX8_seed_14 : decode cX8_seed 14 = .ok (.aload_n 0, 1) := by decide +kernel
theorem dX8_seed_15 : decode cX8_seed 15 = .ok (.getfield 61, 3) := by decide +kernel
theorem dX8_seed_18 : decode cX8_seed 18 = .ok (.l2i, 1) := by decide +kernel
theorem dX8_seed_19 : decode cX8_seed 19 = .ok (.istore_n 2, 1) := by decide +kernel
theorem dX8_seed_20 : decode cX8_seed 20 = .ok (.aload_n 0, 1) := by decide +kernel
theorem dX8_seed_21 : decode cX8_seed 21 = .ok (.iload_n 1, 1) := by decide +kernel
theorem dX8_seed_22 : decode cX8_seed 22 = .ok (.i2l, 1) := by decide +kernel
theorem dX8_seed_23 : decode cX8_seed 23 = .ok (.putfield 61, 3) := by decide +kernel
theorem dX8_seed_26 : decode cX8_seed 26 = .ok (.iload_n 2, 1) := by decide +kernel
theorem dX8_seed_27 : decode cX8_seed 27 = .ok (.ireturn, 1) := by decide +kernel
theorem dX8_told_0 : decode cX8_told 0 = .ok (.aload_n 0, 1) := by decide +kernel
theorem dX8_told_1 : decode cX8_told 1 = .ok (.iload_n 1, 1) := by decide +kernel
theorem dX8_told_2 : decode cX8_told 2 = .ok (.invokevirtual 202, 3) := by decide +kernel
theorem dX8_told_5 : decode cX8_told 5 = .ok (.ifCond .ne 6, 3) := by decide +kernel
theorem dX8_told_8 : decode cX8_told 8 = .ok (.bipush (-2), 2) := by decide +kernel
theorem dX8_told_10 : decode cX8_told 10 = .ok (.ireturn, 1) := by decide +kernel
theorem dX8_told_11 : decode cX8_told 11 = .ok (.iload_n 2, 1) := by decide +kernel
theorem dX8_told_12 : decode cX8_told 12 = .ok (.ifCond .ne 12, 3) := by decide +kernel
theorem dX8_told_15 : decode cX8_told 15 = .ok (.aload_n 0, 1) := by decide +kernel
theorem dX8_told_16 : decode cX8_told 16 = .ok (.getfield 49, 3) := by decide +kernel
theorem dX8_told_19 : decode cX8_told 19 = .ok (.iload_n 1, 1) := by decide +kernel
theorem dX8_told_20 : decode cX8_told 20 = .ok (.iaload, 1) := by decide +kernel
theorem dX8_told_21 : decode cX8_told 21 = .ok (.goto 33, 3) := by decide +kernel
theorem dX8_told_24 : decode cX8_told 24 = .ok (.iload_n 2, 1) := by decide +kernel
theorem dX8_told_25 : decode cX8_told 25 = .ok (.iconst 1, 1) := by decide +kernel
theorem dX8_told_26 : decode cX8_told 26 = .ok (.if_icmp .ne 12, 3) := by decide +kernel
theorem dX8_told_29 : decode cX8_told 29 = .ok (.aload_n 0, 1) := by decide +kernel
theorem dX8_told_30 : decode cX8_told 30 = .ok (.getfield 52, 3) := by decide +kernel
theorem dX8_told_33 : decode cX8_told 33 = .ok (.iload_n 1, 1) := by decide +kernel
theorem dX8_told_34 : decode cX8_told 34 = .ok (.iaload, 1) := by decide +kernel
theorem dX8_told_35 : decode cX8_told 35 = .ok (.goto 19, 3) := by decide +kernel
theorem dX8_told_38 : decode cX8_told 38 = .ok (.iload_n 2, 1) := by decide +kernel
theorem dX8_told_39 : decode cX8_told 39 = .ok (.iconst 2, 1) := by decide +kernel
theorem dX8_told_40 : decode cX8_told 40 = .ok (.if_icmp .ne 12, 3) := by decide +kernel
theorem dX8_told_43 : decode cX8_told 43 = .ok (.aload_n 0, 1) := by decide +kernel
theorem dX8_told_44 : decode cX8_told 44 = .ok (.getfield 55, 3) := by decide +kernel
theorem dX8_told_47 : decode cX8_told 47 = .ok (.iload_n 1, 1) := by decide +kernel
theorem dX8_told_48 : decode cX8_told 48 = .ok (.iaload, 1) := by decide +kernel
theorem dX8_told_49 : decode cX8_told 49 = .ok (.goto 5, 3) := by decide +kernel
theorem dX8_told_52 : decode cX8_told 52 = .ok (.bipush (-2), 2) := by decide +kernel
theorem dX8_told_54 : decode cX8_told 54 = .ok (.ireturn, 1) := by decide +kernel
theorem dX8_placed_0 : decode cX8_placed 0 = .ok (.iload_n 1, 1) := by decide +kernel
theorem dX8_placed_1 : decode cX8_placed 1 = .ok (.invokestatic 196, 3) := by decide +kernel
theorem dX8_placed_4 : decode cX8_placed 4 = .ok (.ifCond .eq 7, 3) := by decide +kernel
theorem dX8_placed_7 : decode cX8_placed 7 = .ok (.iload_n 2, 1) := by decide +kernel
theorem dX8_placed_8 : decode cX8_placed 8 = .ok (.ifCond .ge 6, 3) := by decide +kernel
theorem dX8_placed_11 : decode cX8_placed 11 = .ok (.bipush (-2), 2) := by decide +kernel
theorem dX8_placed_13 : decode cX8_placed 13 = .ok (.ireturn, 1) := by decide +kernel
theorem dX8_placed_14 : decode cX8_placed 14 = .ok (.aload_n 0, 1) := by decide +kernel
theorem dX8_placed_15 : decode cX8_placed 15 = .ok (.iload_n 1, 1) := by decide +kernel
theorem dX8_placed_16 : decode cX8_placed 16 = .ok (.iload_n 2, 1) := by decide +kernel
theorem dX8_placed_17 : decode cX8_placed 17 = .ok (.invokevirtual 209, 3) := by decide +kernel
theorem dX8_placed_20 : decode cX8_placed 20 = .ok (.ireturn, 1) := by decide +kernel
theorem dX8_keyOf_0 : decode cX8_keyOf 0 = .ok (.iconst 0, 1) := by decide +kernel
theorem dX8_keyOf_1 : decode cX8_keyOf 1 = .ok (.istore_n 2, 1) := by decide +kernel
theorem dX8_keyOf_2 : decode cX8_keyOf 2 = .ok (.iload_n 2, 1) := by decide +kernel
theorem dX8_keyOf_3 : decode cX8_keyOf 3 = .ok (.aload_n 0, 1) := by decide +kernel
theorem dX8_keyOf_4 : decode cX8_keyOf 4 = .ok (.getfield 213, 3) := by decide +kernel
theorem dX8_keyOf_7 : decode cX8_keyOf 7 = .ok (.if_icmp .ge 39, 3) := by decide +kernel
theorem dX8_keyOf_10 : decode cX8_keyOf 10 = .ok (.aload_n 0, 1) := by decide +kernel
theorem dX8_keyOf_11 : decode cX8_keyOf 11 = .ok (.getfield 65, 3) := by decide +kernel
theorem dX8_keyOf_14 : decode cX8_keyOf 14 = .ok (.iload_n 2, 1) := by decide +kernel
theorem dX8_keyOf_15 : decode cX8_keyOf 15 = .ok (.iaload, 1) := by decide +kernel
theorem dX8_keyOf_16 : decode cX8_keyOf 16 = .ok (.aload_n 0, 1) := by decide +kernel
theorem dX8_keyOf_17 : decode cX8_keyOf 17 = .ok (.getfield 49, 3) := by decide +kernel
theorem dX8_keyOf_20 : decode cX8_keyOf 20 = .ok (.iload_n 1, 1) := by decide +kernel
theorem dX8_keyOf_21 : decode cX8_keyOf 21 = .ok (.iaload, 1) := by decide +kernel
theorem dX8_keyOf_22 : decode cX8_keyOf 22 = .ok (.if_icmp .ne 18, 3) := by decide +kernel
theorem dX8_keyOf_25 : decode cX8_keyOf 25 = .ok (.aload_n 0, 1) := by decide +kernel
theorem dX8_keyOf_26 : decode cX8_keyOf 26 = .ok (.getfield 68, 3) := by decide +kernel
theorem dX8_keyOf_29 : decode cX8_keyOf 29 = .ok (.iload_n 2, 1) := by decide +kernel
theorem dX8_keyOf_30 : decode cX8_keyOf 30 = .ok (.iaload, 1) := by decide +kernel
theorem dX8_keyOf_31 : decode cX8_keyOf 31 = .ok (.aload_n 0, 1) := by decide +kernel
theorem dX8_keyOf_32 : decode cX8_keyOf 32 = .ok (.getfield 52, 3) := by decide +kernel
theorem dX8_keyOf_35 : decode cX8_keyOf 35 = .ok (.iload_n 1, 1) := by decide +kernel
theorem dX8_keyOf_36 : decode cX8_keyOf 36 = .ok (.iaload, 1) := by decide +kernel
theorem dX8_keyOf_37 : decode cX8_keyOf 37 = .ok (.if_icmp .eq 9, 3) := by decide +kernel
theorem dX8_keyOf_40 : decode cX8_keyOf 40 = .ok (.iinc 2 1, 3) := by decide +kernel
theorem dX8_keyOf_43 : decode cX8_keyOf 43 = .ok (.goto (-41), 3) := by decide +kernel
theorem dX8_keyOf_46 : decode cX8_keyOf 46 = .ok (.iload_n 2, 1) := by decide +kernel
theorem dX8_keyOf_47 : decode cX8_keyOf 47 = .ok (.ireturn, 1) := by decide +kernel
theorem dX8_put_0 : decode cX8_put 0 = .ok (.aload_n 0, 1) := by decide +kernel
theorem dX8_put_1 : decode cX8_put 1 = .ok (.iload_n 1, 1) := by decide +kernel
theorem dX8_put_2 : decode cX8_put 2 = .ok (.invokevirtual 202, 3) := by decide +kernel
theorem dX8_put_5 : decode cX8_put 5 = .ok (.ifCond .ne 6, 3) := by decide +kernel
theorem dX8_put_8 : decode cX8_put 8 = .ok (.bipush (-2), 2) := by decide +kernel
theorem dX8_put_10 : decode cX8_put 10 = .ok (.ireturn, 1) := by decide +kernel
theorem dX8_put_11 : decode cX8_put 11 = .ok (.aload_n 0, 1) := by decide +kernel
theorem dX8_put_12 : decode cX8_put 12 = .ok (.iload_n 1, 1) := by decide +kernel
theorem dX8_put_13 : decode cX8_put 13 = .ok (.invokevirtual 216, 3) := by decide +kernel
theorem dX8_put_16 : decode cX8_put 16 = .ok (.istore_n 3, 1) := by decide +kernel
theorem dX8_put_17 : decode cX8_put 17 = .ok (.iload_n 3, 1) := by decide +kernel
theorem dX8_put_18 : decode cX8_put 18 = .ok (.bipush 40, 2) := by decide +kernel
theorem dX8_put_20 : decode cX8_put 20 = .ok (.if_icmp .ne 6, 3) := by decide +kernel
theorem dX8_put_23 : decode cX8_put 23 = .ok (.bipush (-3), 2) := by decide +kernel
theorem dX8_put_25 : decode cX8_put 25 = .ok (.ireturn, 1) := by decide +kernel
theorem dX8_put_26 : decode cX8_put 26 = .ok (.iload_n 3, 1) := by decide +kernel
theorem dX8_put_27 : decode cX8_put 27 = .ok (.aload_n 0, 1) := by decide +kernel
theorem dX8_put_28 : decode cX8_put 28 = .ok (.getfield 213, 3) := by decide +kernel
theorem dX8_put_31 : decode cX8_put 31 = .ok (.if_icmp .ge 7, 3) := by decide +kernel
theorem dX8_put_34 : decode cX8_put 34 = .ok (.iconst 1, 1) := by decide +kernel
theorem dX8_put_35 : decode cX8_put 35 = .ok (.goto 4, 3) := by decide +kernel
theorem dX8_put_38 : decode cX8_put 38 = .ok (.iconst 0, 1) := by decide +kernel
theorem dX8_put_39 : decode cX8_put 39 = .ok (.istore 4, 2) := by decide +kernel
theorem dX8_put_41 : decode cX8_put 41 = .ok (.aload_n 0, 1) := by decide +kernel
theorem dX8_put_42 : decode cX8_put 42 = .ok (.getfield 65, 3) := by decide +kernel
theorem dX8_put_45 : decode cX8_put 45 = .ok (.iload_n 3, 1) := by decide +kernel
theorem dX8_put_46 : decode cX8_put 46 = .ok (.aload_n 0, 1) := by decide +kernel
theorem dX8_put_47 : decode cX8_put 47 = .ok (.getfield 49, 3) := by decide +kernel
theorem dX8_put_50 : decode cX8_put 50 = .ok (.iload_n 1, 1) := by decide +kernel
theorem dX8_put_51 : decode cX8_put 51 = .ok (.iaload, 1) := by decide +kernel
theorem dX8_put_52 : decode cX8_put 52 = .ok (.iastore, 1) := by decide +kernel
theorem dX8_put_53 : decode cX8_put 53 = .ok (.aload_n 0, 1) := by decide +kernel
theorem dX8_put_54 : decode cX8_put 54 = .ok (.getfield 68, 3) := by decide +kernel
theorem dX8_put_57 : decode cX8_put 57 = .ok (.iload_n 3, 1) := by decide +kernel
theorem dX8_put_58 : decode cX8_put 58 = .ok (.aload_n 0, 1) := by decide +kernel
theorem dX8_put_59 : decode cX8_put 59 = .ok (.getfield 52, 3) := by decide +kernel
theorem dX8_put_62 : decode cX8_put 62 = .ok (.iload_n 1, 1) := by decide +kernel
theorem dX8_put_63 : decode cX8_put 63 = .ok (.iaload, 1) := by decide +kernel
theorem dX8_put_64 : decode cX8_put 64 = .ok (.iastore, 1) := by decide +kernel
theorem dX8_put_65 : decode cX8_put 65 = .ok (.aload_n 0, 1) := by decide +kernel
theorem dX8_put_66 : decode cX8_put 66 = .ok (.getfield 71, 3) := by decide +kernel
theorem dX8_put_69 : decode cX8_put 69 = .ok (.iload_n 3, 1) := by decide +kernel
theorem dX8_put_70 : decode cX8_put 70 = .ok (.iload_n 2, 1) := by decide +kernel
theorem dX8_put_71 : decode cX8_put 71 = .ok (.iastore, 1) := by decide +kernel
theorem dX8_put_72 : decode cX8_put 72 = .ok (.aload_n 0, 1) := by decide +kernel
theorem dX8_put_73 : decode cX8_put 73 = .ok (.dup, 1) := by decide +kernel
theorem dX8_put_74 : decode cX8_put 74 = .ok (.getfield 213, 3) := by decide +kernel
theorem dX8_put_77 : decode cX8_put 77 = .ok (.iload 4, 2) := by decide +kernel
theorem dX8_put_79 : decode cX8_put 79 = .ok (.ifCond .eq 7, 3) := by decide +kernel
theorem dX8_put_82 : decode cX8_put 82 = .ok (.iconst 0, 1) := by decide +kernel
theorem dX8_put_83 : decode cX8_put 83 = .ok (.goto 4, 3) := by decide +kernel
theorem dX8_put_86 : decode cX8_put 86 = .ok (.iconst 1, 1) := by decide +kernel
theorem dX8_put_87 : decode cX8_put 87 = .ok (.iadd, 1) := by decide +kernel
theorem dX8_put_88 : decode cX8_put 88 = .ok (.putfield 213, 3) := by decide +kernel
theorem dX8_put_91 : decode cX8_put 91 = .ok (.iload 4, 2) := by decide +kernel
theorem dX8_put_93 : decode cX8_put 93 = .ok (.ifCond .eq 7, 3) := by decide +kernel
theorem dX8_put_96 : decode cX8_put 96 = .ok (.iconst 1, 1) := by decide +kernel
theorem dX8_put_97 : decode cX8_put 97 = .ok (.goto 4, 3) := by decide +kernel
theorem dX8_put_100 : decode cX8_put 100 = .ok (.iconst 0, 1) := by decide +kernel
theorem dX8_put_101 : decode cX8_put 101 = .ok (.ireturn, 1) := by decide +kernel
theorem dX8_get_0 : decode cX8_get 0 = .ok (.aload_n 0, 1) := by decide +kernel
theorem dX8_get_1 : decode cX8_get 1 = .ok (.iload_n 1, 1) := by decide +kernel
theorem dX8_get_2 : decode cX8_get 2 = .ok (.invokevirtual 202, 3) := by decide +kernel
theorem dX8_get_5 : decode cX8_get 5 = .ok (.ifCond .eq 28, 3) := by decide +kernel
theorem dX8_get_8 : decode cX8_get 8 = .ok (.aload_n 0, 1) := by decide +kernel
theorem dX8_get_9 : decode cX8_get 9 = .ok (.iload_n 1, 1) := by decide +kernel
theorem dX8_get_10 : decode cX8_get 10 = .ok (.invokevirtual 216, 3) := by decide +kernel
theorem dX8_get_13 : decode cX8_get 13 = .ok (.aload_n 0, 1) := by decide +kernel
theorem dX8_get_14 : decode cX8_get 14 = .ok (.getfield 213, 3) := by decide +kernel
theorem dX8_get_17 : decode cX8_get 17 = .ok (.if_icmp .ge 16, 3) := by decide +kernel
theorem dX8_get_20 : decode cX8_get 20 = .ok (.aload_n 0, 1) := by decide +kernel
theorem dX8_get_21 : decode cX8_get 21 = .ok (.getfield 71, 3) := by decide +kernel
theorem dX8_get_24 : decode cX8_get 24 = .ok (.aload_n 0, 1) := by decide +kernel
theorem dX8_get_25 : decode cX8_get 25 = .ok (.iload_n 1, 1) := by decide +kernel
theorem dX8_get_26 : decode cX8_get 26 = .ok (.invokevirtual 216, 3) := by decide +kernel
theorem dX8_get_29 : decode cX8_get 29 = .ok (.iaload, 1) := by decide +kernel
theorem dX8_get_30 : decode cX8_get 30 = .ok (.goto 4, 3) := by decide +kernel
theorem dX8_get_33 : decode cX8_get 33 = .ok (.iconst 0, 1) := by decide +kernel
theorem dX8_get_34 : decode cX8_get 34 = .ok (.ireturn, 1) := by decide +kernel
theorem dX8_count_0 : decode cX8_count 0 = .ok (.iload_n 1, 1) := by decide +kernel
theorem dX8_count_1 : decode cX8_count 1 = .ok (.bipush 11, 2) := by decide +kernel
theorem dX8_count_3 : decode cX8_count 3 = .ok (.if_icmp .lt 19, 3) := by decide +kernel
theorem dX8_count_6 : decode cX8_count 6 = .ok (.iload_n 1, 1) := by decide +kernel
theorem dX8_count_7 : decode cX8_count 7 = .ok (.bipush 17, 2) := by decide +kernel
theorem dX8_count_9 : decode cX8_count 9 = .ok (.if_icmp .gt 13, 3) := by decide +kernel
theorem dX8_count_12 : decode cX8_count 12 = .ok (.aload_n 0, 1) := by decide +kernel
theorem dX8_count_13 : decode cX8_count 13 = .ok (.getfield 13, 3) := by decide +kernel
theorem dX8_count_16 : decode cX8_count 16 = .ok (.iload_n 1, 1) := by decide +kernel
theorem dX8_count_17 : decode cX8_count 17 = .ok (.bipush 10, 2) := by decide +kernel
theorem dX8_count_19 : decode cX8_count 19 = .ok (.isub, 1) := by decide +kernel
theorem dX8_count_20 : decode cX8_count 20 = .ok (.iaload, 1) := by decide +kernel
theorem dX8_count_21 : decode cX8_count 21 = .ok (.ireturn, 1) := by decide +kernel
theorem dX8_count_22 : decode cX8_count 22 = .ok (.iload_n 1, 1) := by decide +kernel
theorem dX8_count_23 : decode cX8_count 23 = .ok (.tableswitch 81 0 4 #[33, 38, 43, 48, 76], 33) := by decide +kernel
theorem dX8_count_56 : decode cX8_count 56 = .ok (.aload_n 0, 1) := by decide +kernel
theorem dX8_count_57 : decode cX8_count 57 = .ok (.getfield 83, 3) := by decide +kernel
theorem dX8_count_60 : decode cX8_count 60 = .ok (.ireturn, 1) := by decide +kernel
theorem dX8_count_61 : decode cX8_count 61 = .ok (.aload_n 0, 1) := by decide +kernel
theorem dX8_count_62 : decode cX8_count 62 = .ok (.getfield 80, 3) := by decide +kernel
theorem dX8_count_65 : decode cX8_count 65 = .ok (.ireturn, 1) := by decide +kernel
theorem dX8_count_66 : decode cX8_count 66 = .ok (.aload_n 0, 1) := by decide +kernel
theorem dX8_count_67 : decode cX8_count 67 = .ok (.getfield 187, 3) := by decide +kernel
theorem dX8_count_70 : decode cX8_count 70 = .ok (.ireturn, 1) := by decide +kernel
theorem dX8_count_71 : decode cX8_count 71 = .ok (.aload_n 0, 1) := by decide +kernel
theorem dX8_count_72 : decode cX8_count 72 = .ok (.getfield 58, 3) := by decide +kernel
theorem dX8_count_75 : decode cX8_count 75 = .ok (.iconst 0, 1) := by decide +kernel
theorem dX8_count_76 : decode cX8_count 76 = .ok (.iaload, 1) := by decide +kernel
theorem dX8_count_77 : decode cX8_count 77 = .ok (.aload_n 0, 1) := by decide +kernel
theorem dX8_count_78 : decode cX8_count 78 = .ok (.getfield 58, 3) := by decide +kernel
theorem dX8_count_81 : decode cX8_count 81 = .ok (.iconst 1, 1) := by decide +kernel
theorem dX8_count_82 : decode cX8_count 82 = .ok (.iaload, 1) := by decide +kernel
theorem dX8_count_83 : decode cX8_count 83 = .ok (.iadd, 1) := by decide +kernel
theorem dX8_count_84 : decode cX8_count 84 = .ok (.aload_n 0, 1) := by decide +kernel
theorem dX8_count_85 : decode cX8_count 85 = .ok (.getfield 58, 3) := by decide +kernel
theorem dX8_count_88 : decode cX8_count 88 = .ok (.iconst 2, 1) := by decide +kernel
theorem dX8_count_89 : decode cX8_count 89 = .ok (.iaload, 1) := by decide +kernel
theorem dX8_count_90 : decode cX8_count 90 = .ok (.iadd, 1) := by decide +kernel
theorem dX8_count_91 : decode cX8_count 91 = .ok (.aload_n 0, 1) := by decide +kernel
theorem dX8_count_92 : decode cX8_count 92 = .ok (.getfield 58, 3) := by decide +kernel
theorem dX8_count_95 : decode cX8_count 95 = .ok (.iconst 3, 1) := by decide +kernel
theorem dX8_count_96 : decode cX8_count 96 = .ok (.iaload, 1) := by decide +kernel
theorem dX8_count_97 : decode cX8_count 97 = .ok (.iadd, 1) := by decide +kernel
theorem dX8_count_98 : decode cX8_count 98 = .ok (.ireturn, 1) := by decide +kernel
theorem dX8_count_99 : decode cX8_count 99 = .ok (.aload_n 0, 1) := by decide +kernel
theorem dX8_count_100 : decode cX8_count 100 = .ok (.getfield 213, 3) := by decide +kernel
theorem dX8_count_103 : decode cX8_count 103 = .ok (.ireturn, 1) := by decide +kernel
theorem dX8_count_104 : decode cX8_count 104 = .ok (.bipush (-2), 2) := by decide +kernel
theorem dX8_count_106 : decode cX8_count 106 = .ok (.ireturn, 1) := by decide +kernel
theorem dJ6_compare_7cf53_0 : decode cJ6_compare_7cf53 0 = .ok (.iload_n 0, 1) := by decide +kernel
theorem dJ6_compare_7cf53_1 : decode cJ6_compare_7cf53 1 = .ok (.iload_n 1, 1) := by decide +kernel
theorem dJ6_compare_7cf53_2 : decode cJ6_compare_7cf53 2 = .ok (.if_icmp .ge 7, 3) := by decide +kernel
theorem dJ6_compare_7cf53_5 : decode cJ6_compare_7cf53 5 = .ok (.iconst (-1), 1) := by decide +kernel
theorem dJ6_compare_7cf53_6 : decode cJ6_compare_7cf53 6 = .ok (.goto 13, 3) := by decide +kernel
theorem dJ6_compare_7cf53_9 : decode cJ6_compare_7cf53 9 = .ok (.iload_n 0, 1) := by decide +kernel
theorem dJ6_compare_7cf53_10 : decode cJ6_compare_7cf53 10 = .ok (.iload_n 1, 1) := by decide +kernel
theorem dJ6_compare_7cf53_11 : decode cJ6_compare_7cf53 11 = .ok (.if_icmp .ne 7, 3) := by decide +kernel
theorem dJ6_compare_7cf53_14 : decode cJ6_compare_7cf53 14 = .ok (.iconst 0, 1) := by decide +kernel
theorem dJ6_compare_7cf53_15 : decode cJ6_compare_7cf53 15 = .ok (.goto 4, 3) := by decide +kernel
theorem dJ6_compare_7cf53_18 : decode cJ6_compare_7cf53 18 = .ok (.iconst 1, 1) := by decide +kernel
theorem dJ6_compare_7cf53_19 : decode cJ6_compare_7cf53 19 = .ok (.ireturn, 1) := by decide +kernel
theorem dJ13_compare_74951_0 : decode cJ13_compare_74951 0 = .ok (.lload_n 0, 1) := by decide +kernel
theorem dJ13_compare_74951_1 : decode cJ13_compare_74951 1 = .ok (.lload_n 2, 1) := by decide +kernel
theorem dJ13_compare_74951_2 : decode cJ13_compare_74951 2 = .ok (.lcmp, 1) := by decide +kernel
theorem dJ13_compare_74951_3 : decode cJ13_compare_74951 3 = .ok (.ifCond .ge 7, 3) := by decide +kernel
theorem dJ13_compare_74951_6 : decode cJ13_compare_74951 6 = .ok (.iconst (-1), 1) := by decide +kernel
theorem dJ13_compare_74951_7 : decode cJ13_compare_74951 7 = .ok (.goto 14, 3) := by decide +kernel
theorem dJ13_compare_74951_10 : decode cJ13_compare_74951 10 = .ok (.lload_n 0, 1) := by decide +kernel
theorem dJ13_compare_74951_11 : decode cJ13_compare_74951 11 = .ok (.lload_n 2, 1) := by decide +kernel
theorem dJ13_compare_74951_12 : decode cJ13_compare_74951 12 = .ok (.lcmp, 1) := by decide +kernel
theorem dJ13_compare_74951_13 : decode cJ13_compare_74951 13 = .ok (.ifCond .ne 7, 3) := by decide +kernel
theorem dJ13_compare_74951_16 : decode cJ13_compare_74951 16 = .ok (.iconst 0, 1) := by decide +kernel
theorem dJ13_compare_74951_17 : decode cJ13_compare_74951 17 = .ok (.goto 4, 3) := by decide +kernel
theorem dJ13_compare_74951_20 : decode cJ13_compare_74951 20 = .ok (.iconst 1, 1) := by decide +kernel
theorem dJ13_compare_74951_21 : decode cJ13_compare_74951 21 = .ok (.ireturn, 1) := by decide +kernel
theorem dJ9_abs_067f4_0 : decode cJ9_abs_067f4 0 = .ok (.lload_n 0, 1) := by decide +kernel
theorem dJ9_abs_067f4_1 : decode cJ9_abs_067f4 1 = .ok (.lconst 0, 1) := by decide +kernel
theorem dJ9_abs_067f4_2 : decode cJ9_abs_067f4 2 = .ok (.lcmp, 1) := by decide +kernel
theorem dJ9_abs_067f4_3 : decode cJ9_abs_067f4 3 = .ok (.ifCond .ge 8, 3) := by decide +kernel
theorem dJ9_abs_067f4_6 : decode cJ9_abs_067f4 6 = .ok (.lload_n 0, 1) := by decide +kernel
theorem dJ9_abs_067f4_7 : decode cJ9_abs_067f4 7 = .ok (.lneg, 1) := by decide +kernel
theorem dJ9_abs_067f4_8 : decode cJ9_abs_067f4 8 = .ok (.goto 4, 3) := by decide +kernel
theorem dJ9_abs_067f4_11 : decode cJ9_abs_067f4 11 = .ok (.lload_n 0, 1) := by decide +kernel
theorem dJ9_abs_067f4_12 : decode cJ9_abs_067f4 12 = .ok (.lreturn, 1) := by decide +kernel
theorem dJ9_min_7cf53_0 : decode cJ9_min_7cf53 0 = .ok (.iload_n 0, 1) := by decide +kernel
theorem dJ9_min_7cf53_1 : decode cJ9_min_7cf53 1 = .ok (.iload_n 1, 1) := by decide +kernel
theorem dJ9_min_7cf53_2 : decode cJ9_min_7cf53 2 = .ok (.if_icmp .gt 7, 3) := by decide +kernel
theorem dJ9_min_7cf53_5 : decode cJ9_min_7cf53 5 = .ok (.iload_n 0, 1) := by decide +kernel
theorem dJ9_min_7cf53_6 : decode cJ9_min_7cf53 6 = .ok (.goto 4, 3) := by decide +kernel
theorem dJ9_min_7cf53_9 : decode cJ9_min_7cf53 9 = .ok (.iload_n 1, 1) := by decide +kernel
theorem dJ9_min_7cf53_10 : decode cJ9_min_7cf53 10 = .ok (.ireturn, 1) := by decide +kernel
