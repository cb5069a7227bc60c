theorem dX0_init_0 : decode cX0_init 0 = .ok (.aload_n 0, 1) := by decide +kernel
theorem dX0_init_1 : decode cX0_init 1 = .ok (.invokespecial 3, 3) := by decide +kernel
theorem dX0_init_4 : decode cX0_init 4 = .ok (.aload_n 0, 1) := by decide +kernel
theorem dX0_init_5 : decode cX0_init 5 = .ok (.iconst 3, 1) := by decide +kernel
theorem dX0_init_6 : decode cX0_init 6 = .ok (.bipush 8, 2) := by decide +kernel
theorem dX0_init_8 : decode cX0_init 8 = .ok (.multianewarray 9 2, 4) := by decide +kernel
theorem dX0_init_12 : decode cX0_init 12 = .ok (.putfield 11, 3) := by decide +kernel
theorem dX0_init_15 : decode cX0_init 15 = .ok (.aload_n 0, 1) := by decide +kernel
theorem dX0_init_16 : decode cX0_init 16 = .ok (.iconst 3, 1) := by decide +kernel
theorem dX0_init_17 : decode cX0_init 17 = .ok (.bipush 8, 2) := by decide +kernel
theorem dX0_init_19 : decode cX0_init 19 = .ok (.multianewarray 9 2, 4) := by decide +kernel
theorem dX0_init_23 : decode cX0_init 23 = .ok (.putfield 16, 3) := by decide +kernel
theorem dX0_init_26 : decode cX0_init 26 = .ok (.return_, 1) := by decide +kernel
theorem dX0_hasRoom_0 : decode cX0_hasRoom 0 = .ok (.iload_n 1, 1) := by decide +kernel
theorem dX0_hasRoom_1 : decode cX0_hasRoom 1 = .ok (.ifCond .lt 22, 3) := by decide +kernel
theorem dX0_hasRoom_4 : decode cX0_hasRoom 4 = .ok (.iload_n 1, 1) := by decide +kernel
theorem dX0_hasRoom_5 : decode cX0_hasRoom 5 = .ok (.iconst 3, 1) := by decide +kernel
theorem dX0_hasRoom_6 : decode cX0_hasRoom 6 = .ok (.if_icmp .ge 17, 3) := by decide +kernel
theorem dX0_hasRoom_9 : decode cX0_hasRoom 9 = .ok (.iload_n 2, 1) := by decide +kernel
theorem dX0_hasRoom_10 : decode cX0_hasRoom 10 = .ok (.ifCond .lt 13, 3) := by decide +kernel
theorem dX0_hasRoom_13 : decode cX0_hasRoom 13 = .ok (.iload_n 2, 1) := by decide +kernel
theorem dX0_hasRoom_14 : decode cX0_hasRoom 14 = .ok (.bipush 8, 2) := by decide +kernel
theorem dX0_hasRoom_16 : decode cX0_hasRoom 16 = .ok (.if_icmp .ge 7, 3) := by decide +kernel
theorem dX0_hasRoom_19 : decode cX0_hasRoom 19 = .ok (.iconst 1, 1) := by decide +kernel
theorem dX0_hasRoom_20 : decode cX0_hasRoom 20 = .ok (.goto 4, 3) := by decide +kernel
theorem dX0_hasRoom_23 : decode cX0_hasRoom 23 = .ok (.iconst 0, 1) := by decide +kernel
theorem dX0_hasRoom_24 : decode cX0_hasRoom 24 = .ok (.ireturn, 1) := by decide +kernel
theorem dX0_intervalOf_0 : decode cX0_intervalOf 0 = .ok (.aload_n 0, 1) := by decide +kernel
theorem dX0_intervalOf_1 : decode cX0_intervalOf 1 = .ok (.iload_n 1, 1) := by decide +kernel
theorem dX0_intervalOf_2 : decode cX0_intervalOf 2 = .ok (.iload_n 2, 1) := by decide +kernel
theorem dX0_intervalOf_3 : decode cX0_intervalOf 3 = .ok (.invokevirtual 19, 3) := by decide +kernel
theorem dX0_intervalOf_6 : decode cX0_intervalOf 6 = .ok (.ifCond .eq 14, 3) := by decide +kernel
theorem dX0_intervalOf_9 : decode cX0_intervalOf 9 = .ok (.aload_n 0, 1) := by decide +kernel
theorem dX0_intervalOf_10 : decode cX0_intervalOf 10 = .ok (.getfield 11, 3) := by decide +kernel
theorem dX0_intervalOf_13 : decode cX0_intervalOf 13 = .ok (.iload_n 1, 1) := by decide +kernel
theorem dX0_intervalOf_14 : decode cX0_intervalOf 14 = .ok (.aaload, 1) := by decide +kernel
theorem dX0_intervalOf_15 : decode cX0_intervalOf 15 = .ok (.iload_n 2, 1) := by decide +kernel
theorem dX0_intervalOf_16 : decode cX0_intervalOf 16 = .ok (.iaload, 1) := by decide +kernel
theorem dX0_intervalOf_17 : decode cX0_intervalOf 17 = .ok (.goto 4, 3) := by decide +kernel
theorem dX0_intervalOf_20 : decode cX0_intervalOf 20 = .ok (.iconst 0, 1) := by decide +kernel
theorem dX0_intervalOf_21 : decode cX0_intervalOf 21 = .ok (.ireturn, 1) := by decide +kernel
theorem dX0_has_0 : decode cX0_has 0 = .ok (.aload_n 0, 1) := by decide +kernel
theorem dX0_has_1 : decode cX0_has 1 = .ok (.iload_n 1, 1) := by decide +kernel
theorem dX0_has_2 : decode cX0_has 2 = .ok (.iload_n 2, 1) := by decide +kernel
theorem dX0_has_3 : decode cX0_has 3 = .ok (.invokevirtual 23, 3) := by decide +kernel
theorem dX0_has_6 : decode cX0_has 6 = .ok (.ifCond .le 7, 3) := by decide +kernel
theorem dX0_has_9 : decode cX0_has 9 = .ok (.iconst 1, 1) := by decide +kernel
theorem dX0_has_10 : decode cX0_has 10 = .ok (.goto 4, 3) := by decide +kernel
theorem dX0_has_13 : decode cX0_has 13 = .ok (.iconst 0, 1) := by decide +kernel
theorem dX0_has_14 : decode cX0_has 14 = .ok (.ireturn, 1) := by decide +kernel
theorem dX0_isDue_0 : decode cX0_isDue 0 = .ok (.aload_n 0, 1) := by decide +kernel
theorem dX0_isDue_1 : decode cX0_isDue 1 = .ok (.iload_n 1, 1) := by decide +kernel
theorem dX0_isDue_2 : decode cX0_isDue 2 = .ok (.iload_n 2, 1) := by decide +kernel
theorem dX0_isDue_3 : decode cX0_isDue 3 = .ok (.invokevirtual 27, 3) := by decide +kernel
theorem dX0_isDue_6 : decode cX0_isDue 6 = .ok (.ifCond .eq 19, 3) := by decide +kernel
theorem dX0_isDue_9 : decode cX0_isDue 9 = .ok (.aload_n 0, 1) := by decide +kernel
theorem dX0_isDue_10 : decode cX0_isDue 10 = .ok (.getfield 16, 3) := by decide +kernel
theorem dX0_isDue_13 : decode cX0_isDue 13 = .ok (.iload_n 1, 1) := by decide +kernel
theorem dX0_isDue_14 : decode cX0_isDue 14 = .ok (.aaload, 1) := by decide +kernel
theorem dX0_isDue_15 : decode cX0_isDue 15 = .ok (.iload_n 2, 1) := by decide +kernel
theorem dX0_isDue_16 : decode cX0_isDue 16 = .ok (.iaload, 1) := by decide +kernel
theorem dX0_isDue_17 : decode cX0_isDue 17 = .ok (.iload_n 3, 1) := by decide +kernel
theorem dX0_isDue_18 : decode cX0_isDue 18 = .ok (.if_icmp .gt 7, 3) := by decide +kernel
theorem dX0_isDue_21 : decode cX0_isDue 21 = .ok (.iconst 1, 1) := by decide +kernel
theorem dX0_isDue_22 : decode cX0_isDue 22 = .ok (.goto 4, 3) := by decide +kernel
theorem dX0_isDue_25 : decode cX0_isDue 25 = .ok (.iconst 0, 1) := by decide +kernel
theorem dX0_isDue_26 : decode cX0_isDue 26 = .ok (.ireturn, 1) := by decide +kernel
theorem dX0_put_0 : decode cX0_put 0 = .ok (.aload_n 0, 1) := by decide +kernel
theorem dX0_put_1 : decode cX0_put 1 = .ok (.iload_n 1, 1) := by decide +kernel
theorem dX0_put_2 : decode cX0_put 2 = .ok (.iload_n 2, 1) := by decide +kernel
theorem dX0_put_3 : decode cX0_put 3 = .ok (.invokevirtual 19, 3) := by decide +kernel
theorem dX0_put_6 : decode cX0_put 6 = .ok (.ifCond .eq 24, 3) := by decide +kernel
theorem dX0_put_9 : decode cX0_put 9 = .ok (.aload_n 0, 1) := by decide +kernel
theorem dX0_put_10 : decode cX0_put 10 = .ok (.getfield 11, 3) := by decide +kernel
theorem dX0_put_13 : decode cX0_put 13 = .ok (.iload_n 1, 1) := by decide +kernel
theorem dX0_put_14 : decode cX0_put 14 = .ok (.aaload, 1) := by decide +kernel
theorem dX0_put_15 : decode cX0_put 15 = .ok (.iload_n 2, 1) := by decide +kernel
theorem dX0_put_16 : decode cX0_put 16 = .ok (.iload_n 3, 1) := by decide +kernel
theorem dX0_put_17 : decode cX0_put 17 = .ok (.iastore, 1) := by decide +kernel
theorem dX0_put_18 : decode cX0_put 18 = .ok (.aload_n 0, 1) := by decide +kernel
theorem dX0_put_19 : decode cX0_put 19 = .ok (.getfield 16, 3) := by decide +kernel
theorem dX0_put_22 : decode cX0_put 22 = .ok (.iload_n 1, 1) := by decide +kernel
theorem dX0_put_23 : decode cX0_put 23 = .ok (.aaload, 1) := by decide +kernel
theorem dX0_put_24 : decode cX0_put 24 = .ok (.iload_n 2, 1) := by decide +kernel
theorem dX0_put_25 : decode cX0_put 25 = .ok (.iload 4, 2) := by decide +kernel
theorem dX0_put_27 : decode cX0_put 27 = .ok (.iload_n 3, 1) := by decide +kernel
theorem dX0_put_28 : decode cX0_put 28 = .ok (.iadd, 1) := by decide +kernel
theorem dX0_put_29 : decode cX0_put 29 = .ok (.iastore, 1) := by decide +kernel
theorem dX0_put_30 : decode cX0_put 30 = .ok (.return_, 1) := by decide +kernel
theorem dX0_drop_0 : decode cX0_drop 0 = .ok (.aload_n 0, 1) := by decide +kernel
theorem dX0_drop_1 : decode cX0_drop 1 = .ok (.iload_n 1, 1) := by decide +kernel
theorem dX0_drop_2 : decode cX0_drop 2 = .ok (.iload_n 2, 1) := by decide +kernel
theorem dX0_drop_3 : decode cX0_drop 3 = .ok (.invokevirtual 19, 3) := by decide +kernel
theorem dX0_drop_6 : decode cX0_drop 6 = .ok (.ifCond .eq 12, 3) := by decide +kernel
theorem dX0_drop_9 : decode cX0_drop 9 = .ok (.aload_n 0, 1) := by decide +kernel
theorem dX0_drop_10 : decode cX0_drop 10 = .ok (.getfield 11, 3) := by decide +kernel
theorem dX0_drop_13 : decode cX0_drop 13 = .ok (.iload_n 1, 1) := by decide +kernel
theorem dX0_drop_14 : decode cX0_drop 14 = .ok (.aaload, 1) := by decide +kernel
theorem dX0_drop_15 : decode cX0_drop 15 = .ok (.iload_n 2, 1) := by decide +kernel
theorem dX0_drop_16 : decode cX0_drop 16 = .ok (.iconst 0, 1) := by decide +kernel
theorem dX0_drop_17 : decode cX0_drop 17 = .ok (.iastore, 1) := by decide +kernel
theorem dX0_drop_18 : decode cX0_drop 18 = .ok (.return_, 1) := by decide +kernel
theorem dX0_countOf_0 : decode cX0_countOf 0 = .ok (.iconst 0, 1) := by decide +kernel
theorem dX0_countOf_1 : decode cX0_countOf 1 = .ok (.istore_n 2, 1) := by decide +kernel
theorem dX0_countOf_2 : decode cX0_countOf 2 = .ok (.iconst 0, 1) := by decide +kernel
theorem dX0_countOf_3 : decode cX0_countOf 3 = .ok (.istore_n 3, 1) := by decide +kernel
theorem dX0_countOf_4 : decode cX0_countOf 4 = .ok (.iload_n 3, 1) := by decide +kernel
theorem dX0_countOf_5 : decode cX0_countOf 5 = .ok (.bipush 8, 2) := by decide +kernel
theorem dX0_countOf_7 : decode cX0_countOf 7 = .ok (.if_icmp .ge 21, 3) := by decide +kernel
theorem dX0_countOf_10 : decode cX0_countOf 10 = .ok (.aload_n 0, 1) := by decide +kernel
theorem dX0_countOf_11 : decode cX0_countOf 11 = .ok (.iload_n 1, 1) := by decide +kernel
theorem dX0_countOf_12 : decode cX0_countOf 12 = .ok (.iload_n 3, 1) := by decide +kernel
theorem dX0_countOf_13 : decode cX0_countOf 13 = .ok (.invokevirtual 27, 3) := by decide +kernel
theorem dX0_countOf_16 : decode cX0_countOf 16 = .ok (.ifCond .eq 6, 3) := by decide +kernel
theorem dX0_countOf_19 : decode cX0_countOf 19 = .ok (.iinc 2 1, 3) := by decide +kernel
theorem dX0_countOf_22 : decode cX0_countOf 22 = .ok (.iinc 3 1, 3) := by decide +kernel
theorem dX0_countOf_25 : decode cX0_countOf 25 = .ok (.goto (-21), 3) := by decide +kernel
theorem dX0_countOf_28 : decode cX0_countOf 28 = .ok (.iload_n 2, 1) := by decide +kernel
theorem dX0_countOf_29 : decode cX0_countOf 29 = .ok (.ireturn, 1) := by decide +kernel
theorem dX0_firstOf_0 : decode cX0_firstOf 0 = .ok (.iconst (-1), 1) := by decide +kernel
theorem dX0_firstOf_1 : decode cX0_firstOf 1 = .ok (.istore_n 2, 1) := by decide +kernel
theorem dX0_firstOf_2 : decode cX0_firstOf 2 = .ok (.iconst 0, 1) := by decide +kernel
theorem dX0_firstOf_3 : decode cX0_firstOf 3 = .ok (.istore_n 3, 1) := by decide +kernel
theorem dX0_firstOf_4 : decode cX0_firstOf 4 = .ok (.iload_n 3, 1) := by decide +kernel
theorem dX0_firstOf_5 : decode cX0_firstOf 5 = .ok (.bipush 8, 2) := by decide +kernel
theorem dX0_firstOf_7 : decode cX0_firstOf 7 = .ok (.if_icmp .ge 44, 3) := by decide +kernel
theorem dX0_firstOf_10 : decode cX0_firstOf 10 = .ok (.aload_n 0, 1) := by decide +kernel
theorem dX0_firstOf_11 : decode cX0_firstOf 11 = .ok (.iload_n 1, 1) := by decide +kernel
theorem dX0_firstOf_12 : decode cX0_firstOf 12 = .ok (.iload_n 3, 1) := by decide +kernel
theorem dX0_firstOf_13 : decode cX0_firstOf 13 = .ok (.invokevirtual 27, 3) := by decide +kernel
theorem dX0_firstOf_16 : decode cX0_firstOf 16 = .ok (.ifCond .eq 29, 3) := by decide +kernel
theorem dX0_firstOf_19 : decode cX0_firstOf 19 = .ok (.iload_n 2, 1) := by decide +kernel
theorem dX0_firstOf_20 : decode cX0_firstOf 20 = .ok (.iconst (-1), 1) := by decide +kernel
theorem dX0_firstOf_21 : decode cX0_firstOf 21 = .ok (.if_icmp .eq 22, 3) := by decide +kernel
theorem dX0_firstOf_24 : decode cX0_firstOf 24 = .ok (.aload_n 0, 1) := by decide +kernel
theorem dX0_firstOf_25 : decode cX0_firstOf 25 = .ok (.getfield 16, 3) := by decide +kernel
theorem dX0_firstOf_28 : decode cX0_firstOf 28 = .ok (.iload_n 1, 1) := by decide +kernel
theorem dX0_firstOf_29 : decode cX0_firstOf 29 = .ok (.aaload, 1) := by decide +kernel
theorem dX0_firstOf_30 : decode cX0_firstOf 30 = .ok (.iload_n 3, 1) := by decide +kernel
theorem dX0_firstOf_31 : decode cX0_firstOf 31 = .ok (.iaload, 1) := by decide +kernel
theorem dX0_firstOf_32 : decode cX0_firstOf 32 = .ok (.aload_n 0, 1) := by decide +kernel
theorem dX0_firstOf_33 : decode cX0_firstOf 33 = .ok (.getfield 16, 3) := by decide +kernel
theorem dX0_firstOf_36 : decode cX0_firstOf 36 = .ok (.iload_n 1, 1) := by decide +kernel
theorem dX0_firstOf_37 : decode cX0_firstOf 37 = .ok (.aaload, 1) := by decide +kernel
theorem dX0_firstOf_38 : decode cX0_firstOf 38 = .ok (.iload_n 2, 1) := by decide +kernel
theorem dX0_firstOf_39 : decode cX0_firstOf 39 = .ok (.iaload, 1) := by decide +kernel
theorem dX0_firstOf_40 : decode cX0_firstOf 40 = .ok (.if_icmp .ge 5, 3) := by decide +kernel
theorem dX0_firstOf_43 : decode cX0_firstOf 43 = .ok (.iload_n 3, 1) := by decide +kernel
theorem dX0_firstOf_44 : decode cX0_firstOf 44 = .ok (.istore_n 2, 1) := by decide +kernel
theorem dX0_firstOf_45 : decode cX0_firstOf 45 = .ok (.iinc 3 1, 3) := by decide +kernel
theorem dX0_firstOf_48 : decode cX0_firstOf 48 = .ok (.goto (-44), 3) := by decide +kernel
theorem dX0_firstOf_51 : decode cX0_firstOf 51 = .ok (.iload_n 2, 1) := by decide +kernel
theorem dX0_firstOf_52 : decode cX0_firstOf 52 = .ok (.ireturn, 1) := by decide +kernel
theorem dX1_init_0 : decode cX1_init 0 = .ok (.aload_n 0, 1) := by decide +kernel
theorem dX1_init_1 : decode cX1_init 1 = .ok (.invokespecial 3, 3) := by decide +kernel
theorem dX1_init_4 : decode cX1_init 4 = .ok (.aload_n 0, 1) := by decide +kernel
theorem dX1_init_5 : decode cX1_init 5 = .ok (.bipush 7, 2) := by decide +kernel
theorem dX1_init_7 : decode cX1_init 7 = .ok (.bipush 64, 2) := by decide +kernel
theorem dX1_init_9 : decode cX1_init 9 = .ok (.multianewarray 11 2, 4) := by decide +kernel
theorem dX1_init_13 : decode cX1_init 13 = .ok (.putfield 13, 3) := by decide +kernel
theorem dX1_init_16 : decode cX1_init 16 = .ok (.aload_n 0, 1) := by decide +kernel
theorem dX1_init_17 : decode cX1_init 17 = .ok (.bipush 6, 2) := by decide +kernel
theorem dX1_init_19 : decode cX1_init 19 = .ok (.newarray .int, 2) := by decide +kernel
theorem dX1_init_21 : decode cX1_init 21 = .ok (.putfield 16, 3) := by decide +kernel
theorem dX1_init_24 : decode cX1_init 24 = .ok (.return_, 1) := by decide +kernel
theorem dX1_weigh_0 : decode cX1_weigh 0 = .ok (.iconst 5, 1) := by decide +kernel
theorem dX1_weigh_1 : decode cX1_weigh 1 = .ok (.istore 4, 2) := by decide +kernel
theorem dX1_weigh_3 : decode cX1_weigh 3 = .ok (.iload 4, 2) := by decide +kernel
theorem dX1_weigh_5 : decode cX1_weigh 5 = .ok (.ifCond .lt 59, 3) := by decide +kernel
theorem dX1_weigh_8 : decode cX1_weigh 8 = .ok (.iload 4, 2) := by decide +kernel
theorem dX1_weigh_10 : decode cX1_weigh 10 = .ok (.iload_n 2, 1) := by decide +kernel
theorem dX1_weigh_11 : decode cX1_weigh 11 = .ok (.if_icmp .ge 7, 3) := by decide +kernel
theorem dX1_weigh_14 : decode cX1_weigh 14 = .ok (.iload_n 3, 1) := by decide +kernel
theorem dX1_weigh_15 : decode cX1_weigh 15 = .ok (.goto 4, 3) := by decide +kernel
theorem dX1_weigh_18 : decode cX1_weigh 18 = .ok (.iconst 0, 1) := by decide +kernel
theorem dX1_weigh_19 : decode cX1_weigh 19 = .ok (.istore 5, 2) := by decide +kernel
theorem dX1_weigh_21 : decode cX1_weigh 21 = .ok (.iconst 0, 1) := by decide +kernel
theorem dX1_weigh_22 : decode cX1_weigh 22 = .ok (.istore 6, 2) := by decide +kernel
theorem dX1_weigh_24 : decode cX1_weigh 24 = .ok (.iload 6, 2) := by decide +kernel
theorem dX1_weigh_26 : decode cX1_weigh 26 = .ok (.bipush 64, 2) := by decide +kernel
theorem dX1_weigh_28 : decode cX1_weigh 28 = .ok (.if_icmp .ge 30, 3) := by decide +kernel
theorem dX1_weigh_31 : decode cX1_weigh 31 = .ok (.aload_n 0, 1) := by decide +kernel
theorem dX1_weigh_32 : decode cX1_weigh 32 = .ok (.getfield 13, 3) := by decide +kernel
theorem dX1_weigh_35 : decode cX1_weigh 35 = .ok (.iload 4, 2) := by decide +kernel
theorem dX1_weigh_37 : decode cX1_weigh 37 = .ok (.aaload, 1) := by decide +kernel
theorem dX1_weigh_38 : decode cX1_weigh 38 = .ok (.iload 6, 2) := by decide +kernel
theorem dX1_weigh_40 : decode cX1_weigh 40 = .ok (.aload_n 0, 1) := by decide +kernel
theorem dX1_weigh_41 : decode cX1_weigh 41 = .ok (.iload 4, 2) := by decide +kernel
theorem dX1_weigh_43 : decode cX1_weigh 43 = .ok (.iload 6, 2) := by decide +kernel
theorem dX1_weigh_45 : decode cX1_weigh 45 = .ok (.aload_n 1, 1) := by decide +kernel
theorem dX1_weigh_46 : decode cX1_weigh 46 = .ok (.iload 5, 2) := by decide +kernel
theorem dX1_weigh_48 : decode cX1_weigh 48 = .ok (.invokevirtual 20, 3) := by decide +kernel
theorem dX1_weigh_51 : decode cX1_weigh 51 = .ok (.iastore, 1) := by decide +kernel
theorem dX1_weigh_52 : decode cX1_weigh 52 = .ok (.iinc 6 1, 3) := by decide +kernel
theorem dX1_weigh_55 : decode cX1_weigh 55 = .ok (.goto (-31), 3) := by decide +kernel
theorem dX1_weigh_58 : decode cX1_weigh 58 = .ok (.iinc 4 (-1), 3) := by decide +kernel
theorem dX1_weigh_61 : decode cX1_weigh 61 = .ok (.goto (-58), 3) := by decide +kernel
theorem dX1_weigh_64 : decode cX1_weigh 64 = .ok (.return_, 1) := by decide +kernel
theorem dX1_leastFrom_0 : decode cX1_leastFrom 0 = .ok (.iload_n 2, 1) := by decide +kernel
theorem dX1_leastFrom_1 : decode cX1_leastFrom 1 = .ok (.iload_n 1, 1) := by decide +kernel
theorem dX1_leastFrom_2 : decode cX1_leastFrom 2 = .ok (.ishr, 1) := by decide +kernel
theorem dX1_leastFrom_3 : decode cX1_leastFrom 3 = .ok (.iconst 1, 1) := by decide +kernel
theorem dX1_leastFrom_4 : decode cX1_leastFrom 4 = .ok (.iand, 1) := by decide +kernel
theorem dX1_leastFrom_5 : decode cX1_leastFrom 5 = .ok (.iconst 1, 1) := by decide +kernel
theorem dX1_leastFrom_6 : decode cX1_leastFrom 6 = .ok (.if_icmp .ne 14, 3) := by decide +kernel
theorem dX1_leastFrom_9 : decode cX1_leastFrom 9 = .ok (.aload_n 0, 1) := by decide +kernel
theorem dX1_leastFrom_10 : decode cX1_leastFrom 10 = .ok (.getfield 13, 3) := by decide +kernel
theorem dX1_leastFrom_13 : decode cX1_leastFrom 13 = .ok (.iload_n 1, 1) := by decide +kernel
theorem dX1_leastFrom_14 : decode cX1_leastFrom 14 = .ok (.iconst 1, 1) := by decide +kernel
theorem dX1_leastFrom_15 : decode cX1_leastFrom 15 = .ok (.iadd, 1) := by decide +kernel
theorem dX1_leastFrom_16 : decode cX1_leastFrom 16 = .ok (.aaload, 1) := by decide +kernel
theorem dX1_leastFrom_17 : decode cX1_leastFrom 17 = .ok (.iload_n 2, 1) := by decide +kernel
theorem dX1_leastFrom_18 : decode cX1_leastFrom 18 = .ok (.iaload, 1) := by decide +kernel
theorem dX1_leastFrom_19 : decode cX1_leastFrom 19 = .ok (.ireturn, 1) := by decide +kernel
theorem dX1_leastFrom_20 : decode cX1_leastFrom 20 = .ok (.iload 4, 2) := by decide +kernel
theorem dX1_leastFrom_22 : decode cX1_leastFrom 22 = .ok (.aload_n 0, 1) := by decide +kernel
theorem dX1_leastFrom_23 : decode cX1_leastFrom 23 = .ok (.getfield 13, 3) := by decide +kernel
theorem dX1_leastFrom_26 : decode cX1_leastFrom 26 = .ok (.iload_n 1, 1) := by decide +kernel
theorem dX1_leastFrom_27 : decode cX1_leastFrom 27 = .ok (.iconst 1, 1) := by decide +kernel
theorem dX1_leastFrom_28 : decode cX1_leastFrom 28 = .ok (.iadd, 1) := by decide +kernel
theorem dX1_leastFrom_29 : decode cX1_leastFrom 29 = .ok (.aaload, 1) := by decide +kernel
theorem dX1_leastFrom_30 : decode cX1_leastFrom 30 = .ok (.iload_n 2, 1) := by decide +kernel
theorem dX1_leastFrom_31 : decode cX1_leastFrom 31 = .ok (.iaload, 1) := by decide +kernel
theorem dX1_leastFrom_32 : decode cX1_leastFrom 32 = .ok (.iadd, 1) := by decide +kernel
theorem dX1_leastFrom_33 : decode cX1_leastFrom 33 = .ok (.istore 5, 2) := by decide +kernel
theorem dX1_leastFrom_35 : decode cX1_leastFrom 35 = .ok (.iconst 0, 1) := by decide +kernel
theorem dX1_leastFrom_36 : decode cX1_leastFrom 36 = .ok (.istore 6, 2) := by decide +kernel
theorem dX1_leastFrom_38 : decode cX1_leastFrom 38 = .ok (.iload 6, 2) := by decide +kernel
theorem dX1_leastFrom_40 : decode cX1_leastFrom 40 = .ok (.aload_n 3, 1) := by decide +kernel
theorem dX1_leastFrom_41 : decode cX1_leastFrom 41 = .ok (.getfield 24, 3) := by decide +kernel
theorem dX1_leastFrom_44 : decode cX1_leastFrom 44 = .ok (.if_icmp .ge 36, 3) := by decide +kernel
theorem dX1_leastFrom_47 : decode cX1_leastFrom 47 = .ok (.aload_n 3, 1) := by decide +kernel
theorem dX1_leastFrom_48 : decode cX1_leastFrom 48 = .ok (.iload 6, 2) := by decide +kernel
theorem dX1_leastFrom_50 : decode cX1_leastFrom 50 = .ok (.iload_n 1, 1) := by decide +kernel
theorem dX1_leastFrom_51 : decode cX1_leastFrom 51 = .ok (.iload_n 2, 1) := by decide +kernel
theorem dX1_leastFrom_52 : decode cX1_leastFrom 52 = .ok (.invokevirtual 30, 3) := by decide +kernel
theorem dX1_leastFrom_55 : decode cX1_leastFrom 55 = .ok (.ifCond .eq 19, 3) := by decide +kernel
theorem dX1_leastFrom_58 : decode cX1_leastFrom 58 = .ok (.iload 5, 2) := by decide +kernel
theorem dX1_leastFrom_60 : decode cX1_leastFrom 60 = .ok (.aload_n 0, 1) := by decide +kernel
theorem dX1_leastFrom_61 : decode cX1_leastFrom 61 = .ok (.iload 6, 2) := by decide +kernel
theorem dX1_leastFrom_63 : decode cX1_leastFrom 63 = .ok (.iload_n 1, 1) := by decide +kernel
theorem dX1_leastFrom_64 : decode cX1_leastFrom 64 = .ok (.iload_n 2, 1) := by decide +kernel
theorem dX1_leastFrom_65 : decode cX1_leastFrom 65 = .ok (.aload_n 3, 1) := by decide +kernel
theorem dX1_leastFrom_66 : decode cX1_leastFrom 66 = .ok (.invokevirtual 34, 3) := by decide +kernel
theorem dX1_leastFrom_69 : decode cX1_leastFrom 69 = .ok (.invokestatic 38, 3) := by decide +kernel
theorem dX1_leastFrom_72 : decode cX1_leastFrom 72 = .ok (.istore 5, 2) := by decide +kernel
theorem dX1_leastFrom_74 : decode cX1_leastFrom 74 = .ok (.iinc 6 1, 3) := by decide +kernel
theorem dX1_leastFrom_77 : decode cX1_leastFrom 77 = .ok (.goto (-39), 3) := by decide +kernel
theorem dX1_leastFrom_80 : decode cX1_leastFrom 80 = .ok (.iload 5, 2) := by decide +kernel
theorem dX1_leastFrom_82 : decode cX1_leastFrom 82 = .ok (.ireturn, 1) := by decide +kernel
theorem dX1_costWith_0 : decode cX1_costWith 0 = .ok (.iload_n 3, 1) := by decide +kernel
theorem dX1_costWith_1 : decode cX1_costWith 1 = .ok (.aload 4, 2) := by decide +kernel
theorem dX1_costWith_3 : decode cX1_costWith 3 = .ok (.iload_n 1, 1) := by decide +kernel
theorem dX1_costWith_4 : decode cX1_costWith 4 = .ok (.invokevirtual 44, 3) := by decide +kernel
theorem dX1_costWith_7 : decode cX1_costWith 7 = .ok (.ior, 1) := by decide +kernel
theorem dX1_costWith_8 : decode cX1_costWith 8 = .ok (.bipush 63, 2) := by decide +kernel
theorem dX1_costWith_10 : decode cX1_costWith 10 = .ok (.iand, 1) := by decide +kernel
theorem dX1_costWith_11 : decode cX1_costWith 11 = .ok (.istore 5, 2) := by decide +kernel
theorem dX1_costWith_13 : decode cX1_costWith 13 = .ok (.aload 4, 2) := by decide +kernel
theorem dX1_costWith_15 : decode cX1_costWith 15 = .ok (.iload_n 1, 1) := by decide +kernel
theorem dX1_costWith_16 : decode cX1_costWith 16 = .ok (.invokevirtual 48, 3) := by decide +kernel
theorem dX1_costWith_19 : decode cX1_costWith 19 = .ok (.aload_n 0, 1) := by decide +kernel
theorem dX1_costWith_20 : decode cX1_costWith 20 = .ok (.getfield 13, 3) := by decide +kernel
theorem dX1_costWith_23 : decode cX1_costWith 23 = .ok (.iload_n 2, 1) := by decide +kernel
theorem dX1_costWith_24 : decode cX1_costWith 24 = .ok (.iconst 1, 1) := by decide +kernel
theorem dX1_costWith_25 : decode cX1_costWith 25 = .ok (.iadd, 1) := by decide +kernel
theorem dX1_costWith_26 : decode cX1_costWith 26 = .ok (.aaload, 1) := by decide +kernel
theorem dX1_costWith_27 : decode cX1_costWith 27 = .ok (.iload 5, 2) := by decide +kernel
theorem dX1_costWith_29 : decode cX1_costWith 29 = .ok (.iaload, 1) := by decide +kernel
theorem dX1_costWith_30 : decode cX1_costWith 30 = .ok (.iadd, 1) := by decide +kernel
theorem dX1_costWith_31 : decode cX1_costWith 31 = .ok (.ireturn, 1) := by decide +kernel
theorem dX1_leastCost_0 : decode cX1_leastCost 0 = .ok (.aload_n 0, 1) := by decide +kernel
theorem dX1_leastCost_1 : decode cX1_leastCost 1 = .ok (.getfield 13, 3) := by decide +kernel
theorem dX1_leastCost_4 : decode cX1_leastCost 4 = .ok (.iconst 0, 1) := by decide +kernel
theorem dX1_leastCost_5 : decode cX1_leastCost 5 = .ok (.aaload, 1) := by decide +kernel
theorem dX1_leastCost_6 : decode cX1_leastCost 6 = .ok (.iconst 0, 1) := by decide +kernel
theorem dX1_leastCost_7 : decode cX1_leastCost 7 = .ok (.iaload, 1) := by decide +kernel
theorem dX1_leastCost_8 : decode cX1_leastCost 8 = .ok (.ireturn, 1) := by decide +kernel
theorem dX1_choose_0 : decode cX1_choose 0 = .ok (.aload_n 0, 1) := by decide +kernel
theorem dX1_choose_1 : decode cX1_choose 1 = .ok (.getfield 16, 3) := by decide +kernel
theorem dX1_choose_4 : decode cX1_choose 4 = .ok (.iconst (-1), 1) := by decide +kernel
theorem dX1_choose_5 : decode cX1_choose 5 = .ok (.invokestatic 51, 3) := by decide +kernel
theorem dX1_choose_8 : decode cX1_choose 8 = .ok (.iconst 0, 1) := by decide +kernel
theorem dX1_choose_9 : decode cX1_choose 9 = .ok (.istore_n 2, 1) := by decide +kernel
theorem dX1_choose_10 : decode cX1_choose 10 = .ok (.iconst 0, 1) := by decide +kernel
theorem dX1_choose_11 : decode cX1_choose 11 = .ok (.istore_n 3, 1) := by decide +kernel
theorem dX1_choose_12 : decode cX1_choose 12 = .ok (.iload_n 3, 1) := by decide +kernel
theorem dX1_choose_13 : decode cX1_choose 13 = .ok (.bipush 6, 2) := by decide +kernel
theorem dX1_choose_15 : decode cX1_choose 15 = .ok (.if_icmp .ge 50, 3) := by decide +kernel
theorem dX1_choose_18 : decode cX1_choose 18 = .ok (.iload_n 2, 1) := by decide +kernel
theorem dX1_choose_19 : decode cX1_choose 19 = .ok (.iload_n 3, 1) := by decide +kernel
theorem dX1_choose_20 : decode cX1_choose 20 = .ok (.ishr, 1) := by decide +kernel
theorem dX1_choose_21 : decode cX1_choose 21 = .ok (.iconst 1, 1) := by decide +kernel
theorem dX1_choose_22 : decode cX1_choose 22 = .ok (.iand, 1) := by decide +kernel
theorem dX1_choose_23 : decode cX1_choose 23 = .ok (.ifCond .ne 36, 3) := by decide +kernel
theorem dX1_choose_26 : decode cX1_choose 26 = .ok (.aload_n 0, 1) := by decide +kernel
theorem dX1_choose_27 : decode cX1_choose 27 = .ok (.iload_n 3, 1) := by decide +kernel
theorem dX1_choose_28 : decode cX1_choose 28 = .ok (.iload_n 2, 1) := by decide +kernel
theorem dX1_choose_29 : decode cX1_choose 29 = .ok (.aload_n 1, 1) := by decide +kernel
theorem dX1_choose_30 : decode cX1_choose 30 = .ok (.invokevirtual 57, 3) := by decide +kernel
theorem dX1_choose_33 : decode cX1_choose 33 = .ok (.istore 4, 2) := by decide +kernel
theorem dX1_choose_35 : decode cX1_choose 35 = .ok (.aload_n 1, 1) := by decide +kernel
theorem dX1_choose_36 : decode cX1_choose 36 = .ok (.iload 4, 2) := by decide +kernel
theorem dX1_choose_38 : decode cX1_choose 38 = .ok (.invokevirtual 44, 3) := by decide +kernel
theorem dX1_choose_41 : decode cX1_choose 41 = .ok (.istore 5, 2) := by decide +kernel
theorem dX1_choose_43 : decode cX1_choose 43 = .ok (.aload_n 0, 1) := by decide +kernel
theorem dX1_choose_44 : decode cX1_choose 44 = .ok (.iload 5, 2) := by decide +kernel
theorem dX1_choose_46 : decode cX1_choose 46 = .ok (.iload 4, 2) := by decide +kernel
theorem dX1_choose_48 : decode cX1_choose 48 = .ok (.invokevirtual 61, 3) := by decide +kernel
theorem dX1_choose_51 : decode cX1_choose 51 = .ok (.iload_n 2, 1) := by decide +kernel
theorem dX1_choose_52 : decode cX1_choose 52 = .ok (.iload 5, 2) := by decide +kernel
theorem dX1_choose_54 : decode cX1_choose 54 = .ok (.ior, 1) := by decide +kernel
theorem dX1_choose_55 : decode cX1_choose 55 = .ok (.bipush 63, 2) := by decide +kernel
theorem dX1_choose_57 : decode cX1_choose 57 = .ok (.iand, 1) := by decide +kernel
theorem dX1_choose_58 : decode cX1_choose 58 = .ok (.istore_n 2, 1) := by decide +kernel
theorem dX1_choose_59 : decode cX1_choose 59 = .ok (.iinc 3 1, 3) := by decide +kernel
theorem dX1_choose_62 : decode cX1_choose 62 = .ok (.goto (-50), 3) := by decide +kernel
theorem dX1_choose_65 : decode cX1_choose 65 = .ok (.return_, 1) := by decide +kernel
theorem dX1_bestFrom_0 : decode cX1_bestFrom 0 = .ok (.iconst 0, 1) := by decide +kernel
theorem dX1_bestFrom_1 : decode cX1_bestFrom 1 = .ok (.istore 4, 2) := by decide +kernel
theorem dX1_bestFrom_3 : decode cX1_bestFrom 3 = .ok (.iload 4, 2) := by decide +kernel
theorem dX1_bestFrom_5 : decode cX1_bestFrom 5 = .ok (.aload_n 3, 1) := by decide +kernel
theorem dX1_bestFrom_6 : decode cX1_bestFrom 6 = .ok (.getfield 24, 3) := by decide +kernel
theorem dX1_bestFrom_9 : decode cX1_bestFrom 9 = .ok (.if_icmp .ge 43, 3) := by decide +kernel
theorem dX1_bestFrom_12 : decode cX1_bestFrom 12 = .ok (.aload_n 3, 1) := by decide +kernel
theorem dX1_bestFrom_13 : decode cX1_bestFrom 13 = .ok (.iload 4, 2) := by decide +kernel
theorem dX1_bestFrom_15 : decode cX1_bestFrom 15 = .ok (.iload_n 1, 1) := by decide +kernel
theorem dX1_bestFrom_16 : decode cX1_bestFrom 16 = .ok (.iload_n 2, 1) := by decide +kernel
theorem dX1_bestFrom_17 : decode cX1_bestFrom 17 = .ok (.invokevirtual 30, 3) := by decide +kernel
theorem dX1_bestFrom_20 : decode cX1_bestFrom 20 = .ok (.ifCond .eq 26, 3) := by decide +kernel
theorem dX1_bestFrom_23 : decode cX1_bestFrom 23 = .ok (.aload_n 0, 1) := by decide +kernel
theorem dX1_bestFrom_24 : decode cX1_bestFrom 24 = .ok (.iload 4, 2) := by decide +kernel
theorem dX1_bestFrom_26 : decode cX1_bestFrom 26 = .ok (.iload_n 1, 1) := by decide +kernel
theorem dX1_bestFrom_27 : decode cX1_bestFrom 27 = .ok (.iload_n 2, 1) := by decide +kernel
theorem dX1_bestFrom_28 : decode cX1_bestFrom 28 = .ok (.aload_n 3, 1) := by decide +kernel
theorem dX1_bestFrom_29 : decode cX1_bestFrom 29 = .ok (.invokevirtual 34, 3) := by decide +kernel
theorem dX1_bestFrom_32 : decode cX1_bestFrom 32 = .ok (.aload_n 0, 1) := by decide +kernel
theorem dX1_bestFrom_33 : decode cX1_bestFrom 33 = .ok (.getfield 13, 3) := by decide +kernel
theorem dX1_bestFrom_36 : decode cX1_bestFrom 36 = .ok (.iload_n 1, 1) := by decide +kernel
theorem dX1_bestFrom_37 : decode cX1_bestFrom 37 = .ok (.aaload, 1) := by decide +kernel
theorem dX1_bestFrom_38 : decode cX1_bestFrom 38 = .ok (.iload_n 2, 1) := by decide +kernel
theorem dX1_bestFrom_39 : decode cX1_bestFrom 39 = .ok (.iaload, 1) := by decide +kernel
theorem dX1_bestFrom_40 : decode cX1_bestFrom 40 = .ok (.if_icmp .ne 6, 3) := by decide +kernel
theorem dX1_bestFrom_43 : decode cX1_bestFrom 43 = .ok (.iload 4, 2) := by decide +kernel
theorem dX1_bestFrom_45 : decode cX1_bestFrom 45 = .ok (.ireturn, 1) := by decide +kernel
theorem dX1_bestFrom_46 : decode cX1_bestFrom 46 = .ok (.iinc 4 1, 3) := by decide +kernel
theorem dX1_bestFrom_49 : decode cX1_bestFrom 49 = .ok (.goto (-46), 3) := by decide +kernel
theorem dX1_bestFrom_52 : decode cX1_bestFrom 52 = .ok (.iconst (-1), 1) := by decide +kernel
theorem dX1_bestFrom_53 : decode cX1_bestFrom 53 = .ok (.ireturn, 1) := by decide +kernel
theorem dX1_mark_0 : decode cX1_mark 0 = .ok (.iconst 0, 1) := by decide +kernel
theorem dX1_mark_1 : decode cX1_mark 1 = .ok (.istore_n 3, 1) := by decide +kernel
theorem dX1_mark_2 : decode cX1_mark 2 = .ok (.iload_n 3, 1) := by decide +kernel
theorem dX1_mark_3 : decode cX1_mark 3 = .ok (.bipush 6, 2) := by decide +kernel
theorem dX1_mark_5 : decode cX1_mark 5 = .ok (.if_icmp .ge 25, 3) := by decide +kernel
theorem dX1_mark_8 : decode cX1_mark 8 = .ok (.iload_n 1, 1) := by decide +kernel
theorem dX1_mark_9 : decode cX1_mark 9 = .ok (.iload_n 3, 1) := by decide +kernel
theorem dX1_mark_10 : decode cX1_mark 10 = .ok (.ishr, 1) := by decide +kernel
theorem dX1_mark_11 : decode cX1_mark 11 = .ok (.iconst 1, 1) := by decide +kernel
theorem dX1_mark_12 : decode cX1_mark 12 = .ok (.iand, 1) := by decide +kernel
theorem dX1_mark_13 : decode cX1_mark 13 = .ok (.iconst 1, 1) := by decide +kernel
theorem dX1_mark_14 : decode cX1_mark 14 = .ok (.if_icmp .ne 10, 3) := by decide +kernel
theorem dX1_mark_17 : decode cX1_mark 17 = .ok (.aload_n 0, 1) := by decide +kernel
theorem dX1_mark_18 : decode cX1_mark 18 = .ok (.getfield 16, 3) := by decide +kernel
theorem dX1_mark_21 : decode cX1_mark 21 = .ok (.iload_n 3, 1) := by decide +kernel
theorem dX1_mark_22 : decode cX1_mark 22 = .ok (.iload_n 2, 1) := by decide +kernel
theorem dX1_mark_23 : decode cX1_mark 23 = .ok (.iastore, 1) := by decide +kernel
theorem dX1_mark_24 : decode cX1_mark 24 = .ok (.iinc 3 1, 3) := by decide +kernel
theorem dX1_mark_27 : decode cX1_mark 27 = .ok (.goto (-25), 3) := by decide +kernel
theorem dX1_mark_30 : decode cX1_mark 30 = .ok (.return_, 1) := by decide +kernel
theorem dX1_pickAt_0 : decode cX1_pickAt 0 = .ok (.iload_n 1, 1) := by decide +kernel
theorem dX1_pickAt_1 : decode cX1_pickAt 1 = .ok (.ifCond .lt 18, 3) := by decide +kernel
theorem dX1_pickAt_4 : decode cX1_pickAt 4 = .ok (.iload_n 1, 1) := by decide +kernel
theorem dX1_pickAt_5 : decode cX1_pickAt 5 = .ok (.bipush 6, 2) := by decide +kernel
theorem dX1_pickAt_7 : decode cX1_pickAt 7 = .ok (.if_icmp .ge 12, 3) := by decide +kernel
theorem dX1_pickAt_10 : decode cX1_pickAt 10 = .ok (.aload_n 0, 1) := by decide +kernel
theorem dX1_pickAt_11 : decode cX1_pickAt 11 = .ok (.getfield 16, 3) := by decide +kernel
theorem dX1_pickAt_14 : decode cX1_pickAt 14 = .ok (.iload_n 1, 1) := by decide +kernel
theorem dX1_pickAt_15 : decode cX1_pickAt 15 = .ok (.iaload, 1) := by decide +kernel
theorem dX1_pickAt_16 : decode cX1_pickAt 16 = .ok (.goto 4, 3) := by decide +kernel
theorem dX1_pickAt_19 : decode cX1_pickAt 19 = .ok (.iconst (-1), 1) := by decide +kernel
theorem dX1_pickAt_20 : decode cX1_pickAt 20 = .ok (.ireturn, 1) := by decide +kernel
theorem dX2_init_0 : decode cX2_init 0 = .ok (.aload_n 0, 1) := by decide +kernel
theorem dX2_init_1 : decode cX2_init 1 = .ok (.invokespecial 1, 3) := by decide +kernel
theorem dX2_init_4 : decode cX2_init 4 = .ok (.aload_n 0, 1) := by decide +kernel
theorem dX2_init_5 : decode cX2_init 5 = .ok (.iload_n 1, 1) := by decide +kernel
theorem dX2_init_6 : decode cX2_init 6 = .ok (.putfield 7, 3) := by decide +kernel
theorem dX2_init_9 : decode cX2_init 9 = .ok (.return_, 1) := by decide +kernel
theorem dX3_init_0 : decode cX3_init 0 = .ok (.aload_n 0, 1) := by decide +kernel
theorem dX3_init_1 : decode cX3_init 1 = .ok (.iload_n 1, 1) := by decide +kernel
theorem dX3_init_2 : decode cX3_init 2 = .ok (.invokespecial 3, 3) := by decide +kernel
theorem dX3_init_5 : decode cX3_init 5 = .ok (.aload_n 0, 1) := by decide +kernel
theorem dX3_init_6 : decode cX3_init 6 = .ok (.aload_n 2, 1) := by decide +kernel
theorem dX3_init_7 : decode cX3_init 7 = .ok (.putfield 9, 3) := by decide +kernel
theorem dX3_init_10 : decode cX3_init 10 = .ok (.return_, 1) := by decide +kernel
theorem dX3_find_0 : decode cX3_find 0 = .ok (.iconst 0, 1) := by decide +kernel
theorem dX3_find_1 : decode cX3_find 1 = .ok (.istore 5, 2) := by decide +kernel
theorem dX3_find_3 : decode cX3_find 3 = .ok (.iload 5, 2) := by decide +kernel
theorem dX3_find_5 : decode cX3_find 5 = .ok (.bipush 6, 2) := by decide +kernel
theorem dX3_find_7 : decode cX3_find 7 = .ok (.if_icmp .ge 36, 3) := by decide +kernel
theorem dX3_find_10 : decode cX3_find 10 = .ok (.aload_n 0, 1) := by decide +kernel
theorem dX3_find_11 : decode cX3_find 11 = .ok (.iload 5, 2) := by decide +kernel
theorem dX3_find_13 : decode cX3_find 13 = .ok (.aload_n 2, 1) := by decide +kernel
theorem dX3_find_14 : decode cX3_find 14 = .ok (.aload_n 3, 1) := by decide +kernel
theorem dX3_find_15 : decode cX3_find 15 = .ok (.invokevirtual 15, 3) := by decide +kernel
theorem dX3_find_18 : decode cX3_find 18 = .ok (.istore 6, 2) := by decide +kernel
theorem dX3_find_20 : decode cX3_find 20 = .ok (.iload 6, 2) := by decide +kernel
theorem dX3_find_22 : decode cX3_find 22 = .ok (.ifCond .eq 15, 3) := by decide +kernel
theorem dX3_find_25 : decode cX3_find 25 = .ok (.aload 4, 2) := by decide +kernel
theorem dX3_find_27 : decode cX3_find 27 = .ok (.iload_n 1, 1) := by decide +kernel
theorem dX3_find_28 : decode cX3_find 28 = .ok (.iload 6, 2) := by decide +kernel
theorem dX3_find_30 : decode cX3_find 30 = .ok (.aload_n 0, 1) := by decide +kernel
theorem dX3_find_31 : decode cX3_find 31 = .ok (.getfield 19, 3) := by decide +kernel
theorem dX3_find_34 : decode cX3_find 34 = .ok (.invokevirtual 23, 3) := by decide +kernel
theorem dX3_find_37 : decode cX3_find 37 = .ok (.iinc 5 1, 3) := by decide +kernel
theorem dX3_find_40 : decode cX3_find 40 = .ok (.goto (-37), 3) := by decide +kernel
theorem dX3_find_43 : decode cX3_find 43 = .ok (.return_, 1) := by decide +kernel
theorem dX3_placesFrom_0 : decode cX3_placesFrom 0 = .ok (.iconst 0, 1) := by decide +kernel
theorem dX3_placesFrom_1 : decode cX3_placesFrom 1 = .ok (.istore 4, 2) := by decide +kernel
theorem dX3_placesFrom_3 : decode cX3_placesFrom 3 = .ok (.iconst 0, 1) := by decide +kernel
theorem dX3_placesFrom_4 : decode cX3_placesFrom 4 = .ok (.istore 5, 2) := by decide +kernel
theorem dX3_placesFrom_6 : decode cX3_placesFrom 6 = .ok (.iload 5, 2) := by decide +kernel
theorem dX3_placesFrom_8 : decode cX3_placesFrom 8 = .ok (.aload_n 0, 1) := by decide +kernel
theorem dX3_placesFrom_9 : decode cX3_placesFrom 9 = .ok (.getfield 9, 3) := by decide +kernel
theorem dX3_placesFrom_12 : decode cX3_placesFrom 12 = .ok (.arraylength, 1) := by decide +kernel
theorem dX3_placesFrom_13 : decode cX3_placesFrom 13 = .ok (.if_icmp .ge 52, 3) := by decide +kernel
theorem dX3_placesFrom_16 : decode cX3_placesFrom 16 = .ok (.aload_n 0, 1) := by decide +kernel
theorem dX3_placesFrom_17 : decode cX3_placesFrom 17 = .ok (.getfield 9, 3) := by decide +kernel
theorem dX3_placesFrom_20 : decode cX3_placesFrom 20 = .ok (.iload 5, 2) := by decide +kernel
theorem dX3_placesFrom_22 : decode cX3_placesFrom 22 = .ok (.iaload, 1) := by decide +kernel
theorem dX3_placesFrom_23 : decode cX3_placesFrom 23 = .ok (.iconst (-1), 1) := by decide +kernel
theorem dX3_placesFrom_24 : decode cX3_placesFrom 24 = .ok (.if_icmp .eq 35, 3) := by decide +kernel
theorem dX3_placesFrom_27 : decode cX3_placesFrom 27 = .ok (.aload_n 3, 1) := by decide +kernel
theorem dX3_placesFrom_28 : decode cX3_placesFrom 28 = .ok (.iload_n 1, 1) := by decide +kernel
theorem dX3_placesFrom_29 : decode cX3_placesFrom 29 = .ok (.iload 5, 2) := by decide +kernel
theorem dX3_placesFrom_31 : decode cX3_placesFrom 31 = .ok (.iadd, 1) := by decide +kernel
theorem dX3_placesFrom_32 : decode cX3_placesFrom 32 = .ok (.aload_n 0, 1) := by decide +kernel
theorem dX3_placesFrom_33 : decode cX3_placesFrom 33 = .ok (.getfield 9, 3) := by decide +kernel
theorem dX3_placesFrom_36 : decode cX3_placesFrom 36 = .ok (.iload 5, 2) := by decide +kernel
theorem dX3_placesFrom_38 : decode cX3_placesFrom 38 = .ok (.iaload, 1) := by decide +kernel
theorem dX3_placesFrom_39 : decode cX3_placesFrom 39 = .ok (.aload_n 2, 1) := by decide +kernel
theorem dX3_placesFrom_40 : decode cX3_placesFrom 40 = .ok (.invokevirtual 29, 3) := by decide +kernel
theorem dX3_placesFrom_43 : decode cX3_placesFrom 43 = .ok (.ifCond .ne 5, 3) := by decide +kernel
theorem dX3_placesFrom_46 : decode cX3_placesFrom 46 = .ok (.iconst 0, 1) := by decide +kernel
theorem dX3_placesFrom_47 : decode cX3_placesFrom 47 = .ok (.ireturn, 1) := by decide +kernel
theorem dX3_placesFrom_48 : decode cX3_placesFrom 48 = .ok (.iload 4, 2) := by decide +kernel
theorem dX3_placesFrom_50 : decode cX3_placesFrom 50 = .ok (.iconst 1, 1) := by decide +kernel
theorem dX3_placesFrom_51 : decode cX3_placesFrom 51 = .ok (.iload_n 1, 1) := by decide +kernel
theorem dX3_placesFrom_52 : decode cX3_placesFrom 52 = .ok (.iload 5, 2) := by decide +kernel
theorem dX3_placesFrom_54 : decode cX3_placesFrom 54 = .ok (.iadd, 1) := by decide +kernel
theorem dX3_placesFrom_55 : decode cX3_placesFrom 55 = .ok (.ishl, 1) := by decide +kernel
theorem dX3_placesFrom_56 : decode cX3_placesFrom 56 = .ok (.ior, 1) := by decide +kernel
theorem dX3_placesFrom_57 : decode cX3_placesFrom 57 = .ok (.istore 4, 2) := by decide +kernel
theorem dX3_placesFrom_59 : decode cX3_placesFrom 59 = .ok (.iinc 5 1, 3) := by decide +kernel
theorem dX3_placesFrom_62 : decode cX3_placesFrom 62 = .ok (.goto (-56), 3) := by decide +kernel
theorem dX3_placesFrom_65 : decode cX3_placesFrom 65 = .ok (.iload 4, 2) := by decide +kernel
theorem dX3_placesFrom_67 : decode cX3_placesFrom 67 = .ok (.ireturn, 1) := by decide +kernel
theorem dX4_init_0 : decode cX4_init 0 = .ok (.aload_n 0, 1) := by decide +kernel
theorem dX4_init_1 : decode cX4_init 1 = .ok (.invokespecial 3, 3) := by decide +kernel
theorem dX4_init_4 : decode cX4_init 4 = .ok (.aload_n 0, 1) := by decide +kernel
theorem dX4_init_5 : decode cX4_init 5 = .ok (.bipush 6, 2) := by decide +kernel
theorem dX4_init_7 : decode cX4_init 7 = .ok (.newarray .int, 2) := by decide +kernel
theorem dX4_init_9 : decode cX4_init 9 = .ok (.putfield 9, 3) := by decide +kernel
theorem dX4_init_12 : decode cX4_init 12 = .ok (.aload_n 0, 1) := by decide +kernel
theorem dX4_init_13 : decode cX4_init 13 = .ok (.bipush 6, 2) := by decide +kernel
theorem dX4_init_15 : decode cX4_init 15 = .ok (.newarray .int, 2) := by decide +kernel
theorem dX4_init_17 : decode cX4_init 17 = .ok (.putfield 15, 3) := by decide +kernel
theorem dX4_init_20 : decode cX4_init 20 = .ok (.return_, 1) := by decide +kernel
theorem dX4_isFull_0 : decode cX4_isFull 0 = .ok (.aload_n 0, 1) := by decide +kernel
theorem dX4_isFull_1 : decode cX4_isFull 1 = .ok (.getfield 18, 3) := by decide +kernel
theorem dX4_isFull_4 : decode cX4_isFull 4 = .ok (.bipush 6, 2) := by decide +kernel
theorem dX4_isFull_6 : decode cX4_isFull 6 = .ok (.if_icmp .lt 7, 3) := by decide +kernel
theorem dX4_isFull_9 : decode cX4_isFull 9 = .ok (.iconst 1, 1) := by decide +kernel
theorem dX4_isFull_10 : decode cX4_isFull 10 = .ok (.goto 4, 3) := by decide +kernel
theorem dX4_isFull_13 : decode cX4_isFull 13 = .ok (.iconst 0, 1) := by decide +kernel
theorem dX4_isFull_14 : decode cX4_isFull 14 = .ok (.ireturn, 1) := by decide +kernel
theorem dX4_put_0 : decode cX4_put 0 = .ok (.aload_n 0, 1) := by decide +kernel
theorem dX4_put_1 : decode cX4_put 1 = .ok (.getfield 18, 3) := by decide +kernel
theorem dX4_put_4 : decode cX4_put 4 = .ok (.istore_n 3, 1) := by decide +kernel
theorem dX4_put_5 : decode cX4_put 5 = .ok (.iload_n 3, 1) := by decide +kernel
theorem dX4_put_6 : decode cX4_put 6 = .ok (.bipush 6, 2) := by decide +kernel
theorem dX4_put_8 : decode cX4_put 8 = .ok (.if_icmp .ge 27, 3) := by decide +kernel
theorem dX4_put_11 : decode cX4_put 11 = .ok (.aload_n 0, 1) := by decide +kernel
theorem dX4_put_12 : decode cX4_put 12 = .ok (.getfield 9, 3) := by decide +kernel
theorem dX4_put_15 : decode cX4_put 15 = .ok (.iload_n 3, 1) := by decide +kernel
theorem dX4_put_16 : decode cX4_put 16 = .ok (.iload_n 1, 1) := by decide +kernel
theorem dX4_put_17 : decode cX4_put 17 = .ok (.iastore, 1) := by decide +kernel
theorem dX4_put_18 : decode cX4_put 18 = .ok (.aload_n 0, 1) := by decide +kernel
theorem dX4_put_19 : decode cX4_put 19 = .ok (.getfield 15, 3) := by decide +kernel
theorem dX4_put_22 : decode cX4_put 22 = .ok (.iload_n 3, 1) := by decide +kernel
theorem dX4_put_23 : decode cX4_put 23 = .ok (.iload_n 2, 1) := by decide +kernel
theorem dX4_put_24 : decode cX4_put 24 = .ok (.iastore, 1) := by decide +kernel
theorem dX4_put_25 : decode cX4_put 25 = .ok (.aload_n 0, 1) := by decide +kernel
theorem dX4_put_26 : decode cX4_put 26 = .ok (.dup, 1) := by decide +kernel
theorem dX4_put_27 : decode cX4_put 27 = .ok (.getfield 18, 3) := by decide +kernel
theorem dX4_put_30 : decode cX4_put 30 = .ok (.iconst 1, 1) := by decide +kernel
theorem dX4_put_31 : decode cX4_put 31 = .ok (.iadd, 1) := by decide +kernel
theorem dX4_put_32 : decode cX4_put 32 = .ok (.putfield 18, 3) := by decide +kernel
theorem dX4_put_35 : decode cX4_put 35 = .ok (.iload_n 3, 1) := by decide +kernel
theorem dX4_put_36 : decode cX4_put 36 = .ok (.ireturn, 1) := by decide +kernel
theorem dX4_leadBack_0 : decode cX4_leadBack 0 = .ok (.iload_n 1, 1) := by decide +kernel
theorem dX4_leadBack_1 : decode cX4_leadBack 1 = .ok (.iload_n 2, 1) := by decide +kernel
theorem dX4_leadBack_2 : decode cX4_leadBack 2 = .ok (.if_icmp .ne 5, 3) := by decide +kernel
theorem dX4_leadBack_5 : decode cX4_leadBack 5 = .ok (.iconst 1, 1) := by decide +kernel
theorem dX4_leadBack_6 : decode cX4_leadBack 6 = .ok (.ireturn, 1) := by decide +kernel
theorem dX4_leadBack_7 : decode cX4_leadBack 7 = .ok (.iconst 0, 1) := by decide +kernel
theorem dX4_leadBack_8 : decode cX4_leadBack 8 = .ok (.istore_n 3, 1) := by decide +kernel
theorem dX4_leadBack_9 : decode cX4_leadBack 9 = .ok (.iload_n 3, 1) := by decide +kernel
theorem dX4_leadBack_10 : decode cX4_leadBack 10 = .ok (.aload_n 0, 1) := by decide +kernel
theorem dX4_leadBack_11 : decode cX4_leadBack 11 = .ok (.getfield 18, 3) := by decide +kernel
theorem dX4_leadBack_14 : decode cX4_leadBack 14 = .ok (.if_icmp .ge 41, 3) := by decide +kernel
theorem dX4_leadBack_17 : decode cX4_leadBack 17 = .ok (.iload_n 3, 1) := by decide +kernel
theorem dX4_leadBack_18 : decode cX4_leadBack 18 = .ok (.bipush 6, 2) := by decide +kernel
theorem dX4_leadBack_20 : decode cX4_leadBack 20 = .ok (.if_icmp .ge 35, 3) := by decide +kernel
theorem dX4_leadBack_23 : decode cX4_leadBack 23 = .ok (.aload_n 0, 1) := by decide +kernel
theorem dX4_leadBack_24 : decode cX4_leadBack 24 = .ok (.getfield 9, 3) := by decide +kernel
theorem dX4_leadBack_27 : decode cX4_leadBack 27 = .ok (.iload_n 3, 1) := by decide +kernel
theorem dX4_leadBack_28 : decode cX4_leadBack 28 = .ok (.iaload, 1) := by decide +kernel
theorem dX4_leadBack_29 : decode cX4_leadBack 29 = .ok (.iload_n 2, 1) := by decide +kernel
theorem dX4_leadBack_30 : decode cX4_leadBack 30 = .ok (.iconst 3, 1) := by decide +kernel
theorem dX4_leadBack_31 : decode cX4_leadBack 31 = .ok (.irem, 1) := by decide +kernel
theorem dX4_leadBack_32 : decode cX4_leadBack 32 = .ok (.if_icmp .ne 17, 3) := by decide +kernel
theorem dX4_leadBack_35 : decode cX4_leadBack 35 = .ok (.iload_n 1, 1) := by decide +kernel
theorem dX4_leadBack_36 : decode cX4_leadBack 36 = .ok (.iload_n 2, 1) := by decide +kernel
theorem dX4_leadBack_37 : decode cX4_leadBack 37 = .ok (.aload_n 0, 1) := by decide +kernel
theorem dX4_leadBack_38 : decode cX4_leadBack 38 = .ok (.getfield 15, 3) := by decide +kernel
theorem dX4_leadBack_41 : decode cX4_leadBack 41 = .ok (.iload_n 3, 1) := by decide +kernel
theorem dX4_leadBack_42 : decode cX4_leadBack 42 = .ok (.iaload, 1) := by decide +kernel
theorem dX4_leadBack_43 : decode cX4_leadBack 43 = .ok (.iadd, 1) := by decide +kernel
theorem dX4_leadBack_44 : decode cX4_leadBack 44 = .ok (.if_icmp .ne 5, 3) := by decide +kernel
theorem dX4_leadBack_47 : decode cX4_leadBack 47 = .ok (.iconst 1, 1) := by decide +kernel
theorem dX4_leadBack_48 : decode cX4_leadBack 48 = .ok (.ireturn, 1) := by decide +kernel
theorem dX4_leadBack_49 : decode cX4_leadBack 49 = .ok (.iinc 3 1, 3) := by decide +kernel
theorem dX4_leadBack_52 : decode cX4_leadBack 52 = .ok (.goto (-43), 3) := by decide +kernel
theorem dX4_leadBack_55 : decode cX4_leadBack 55 = .ok (.iconst 0, 1) := by decide +kernel
theorem dX4_leadBack_56 : decode cX4_leadBack 56 = .ok (.ireturn, 1) := by decide +kernel
theorem dX5_init_0 : decode cX5_init 0 = .ok (.aload_n 0, 1) := by decide +kernel
theorem dX5_init_1 : decode cX5_init 1 = .ok (.invokespecial 3, 3) := by decide +kernel
theorem dX5_init_4 : decode cX5_init 4 = .ok (.aload_n 0, 1) := by decide +kernel
theorem dX5_init_5 : decode cX5_init 5 = .ok (.bipush 6, 2) := by decide +kernel
theorem dX5_init_7 : decode cX5_init 7 = .ok (.newarray .int, 2) := by decide +kernel
theorem dX5_init_9 : decode cX5_init 9 = .ok (.putfield 9, 3) := by decide +kernel
theorem dX5_init_12 : decode cX5_init 12 = .ok (.return_, 1) := by decide +kernel
theorem dX5_isFull_0 : decode cX5_isFull 0 = .ok (.aload_n 0, 1) := by decide +kernel
theorem dX5_isFull_1 : decode cX5_isFull 1 = .ok (.getfield 15, 3) := by decide +kernel
theorem dX5_isFull_4 : decode cX5_isFull 4 = .ok (.bipush 6, 2) := by decide +kernel
theorem dX5_isFull_6 : decode cX5_isFull 6 = .ok (.if_icmp .lt 7, 3) := by decide +kernel
theorem dX5_isFull_9 : decode cX5_isFull 9 = .ok (.iconst 1, 1) := by decide +kernel
theorem dX5_isFull_10 : decode cX5_isFull 10 = .ok (.goto 4, 3) := by decide +kernel
theorem dX5_isFull_13 : decode cX5_isFull 13 = .ok (.iconst 0, 1) := by decide +kernel
theorem dX5_isFull_14 : decode cX5_isFull 14 = .ok (.ireturn, 1) := by decide +kernel
theorem dX5_hasPlace_0 : decode cX5_hasPlace 0 = .ok (.iload_n 1, 1) := by decide +kernel
theorem dX5_hasPlace_1 : decode cX5_hasPlace 1 = .ok (.ifCond .lt 21, 3) := by decide +kernel
theorem dX5_hasPlace_4 : decode cX5_hasPlace 4 = .ok (.iload_n 1, 1) := by decide +kernel
theorem dX5_hasPlace_5 : decode cX5_hasPlace 5 = .ok (.aload_n 0, 1) := by decide +kernel
theorem dX5_hasPlace_6 : decode cX5_hasPlace 6 = .ok (.getfield 15, 3) := by decide +kernel
theorem dX5_hasPlace_9 : decode cX5_hasPlace 9 = .ok (.if_icmp .ge 13, 3) := by decide +kernel
theorem dX5_hasPlace_12 : decode cX5_hasPlace 12 = .ok (.iload_n 1, 1) := by decide +kernel
theorem dX5_hasPlace_13 : decode cX5_hasPlace 13 = .ok (.bipush 6, 2) := by decide +kernel
theorem dX5_hasPlace_15 : decode cX5_hasPlace 15 = .ok (.if_icmp .ge 7, 3) := by decide +kernel
theorem dX5_hasPlace_18 : decode cX5_hasPlace 18 = .ok (.iconst 1, 1) := by decide +kernel
theorem dX5_hasPlace_19 : decode cX5_hasPlace 19 = .ok (.goto 4, 3) := by decide +kernel
theorem dX5_hasPlace_22 : decode cX5_hasPlace 22 = .ok (.iconst 0, 1) := by decide +kernel
theorem dX5_hasPlace_23 : decode cX5_hasPlace 23 = .ok (.ireturn, 1) := by decide +kernel
theorem dX5_put_0 : decode cX5_put 0 = .ok (.aload_n 0, 1) := by decide +kernel
theorem dX5_put_1 : decode cX5_put 1 = .ok (.getfield 15, 3) := by decide +kernel
theorem dX5_put_4 : decode cX5_put 4 = .ok (.bipush 6, 2) := by decide +kernel
theorem dX5_put_6 : decode cX5_put 6 = .ok (.if_icmp .ge 23, 3) := by decide +kernel
theorem dX5_put_9 : decode cX5_put 9 = .ok (.aload_n 0, 1) := by decide +kernel
theorem dX5_put_10 : decode cX5_put 10 = .ok (.getfield 9, 3) := by decide +kernel
theorem dX5_put_13 : decode cX5_put 13 = .ok (.aload_n 0, 1) := by decide +kernel
theorem dX5_put_14 : decode cX5_put 14 = .ok (.getfield 15, 3) := by decide +kernel
theorem dX5_put_17 : decode cX5_put 17 = .ok (.iload_n 1, 1) := by decide +kernel
theorem dX5_put_18 : decode cX5_put 18 = .ok (.iastore, 1) := by decide +kernel
theorem dX5_put_19 : decode cX5_put 19 = .ok (.aload_n 0, 1) := by decide +kernel
theorem dX5_put_20 : decode cX5_put 20 = .ok (.dup, 1) := by decide +kernel
theorem dX5_put_21 : decode cX5_put 21 = .ok (.getfield 15, 3) := by decide +kernel
theorem dX5_put_24 : decode cX5_put 24 = .ok (.iconst 1, 1) := by decide +kernel
theorem dX5_put_25 : decode cX5_put 25 = .ok (.iadd, 1) := by decide +kernel
theorem dX5_put_26 : decode cX5_put 26 = .ok (.putfield 15, 3) := by decide +kernel
theorem dX5_put_29 : decode cX5_put 29 = .ok (.aload_n 0, 1) := by decide +kernel
theorem dX5_put_30 : decode cX5_put 30 = .ok (.getfield 15, 3) := by decide +kernel
theorem dX5_put_33 : decode cX5_put 33 = .ok (.ireturn, 1) := by decide +kernel
theorem dX5_empty_0 : decode cX5_empty 0 = .ok (.aload_n 0, 1) := by decide +kernel
theorem dX5_empty_1 : decode cX5_empty 1 = .ok (.getfield 15, 3) := by decide +kernel
theorem dX5_empty_4 : decode cX5_empty 4 = .ok (.istore_n 1, 1) := by decide +kernel
theorem dX5_empty_5 : decode cX5_empty 5 = .ok (.aload_n 0, 1) := by decide +kernel
theorem dX5_empty_6 : decode cX5_empty 6 = .ok (.iconst 0, 1) := by decide +kernel
theorem dX5_empty_7 : decode cX5_empty 7 = .ok (.putfield 15, 3) := by decide +kernel
theorem dX5_empty_10 : decode cX5_empty 10 = .ok (.iload_n 1, 1) := by decide +kernel
theorem dX5_empty_11 : decode cX5_empty 11 = .ok (.ireturn, 1) := by decide +kernel
theorem dX5_hasFormAt_0 : decode cX5_hasFormAt 0 = .ok (.aload_n 0, 1) := by decide +kernel
theorem dX5_hasFormAt_1 : decode cX5_hasFormAt 1 = .ok (.iload_n 1, 1) := by decide +kernel
theorem dX5_hasFormAt_2 : decode cX5_hasFormAt 2 = .ok (.invokevirtual 19, 3) := by decide +kernel
theorem dX5_hasFormAt_5 : decode cX5_hasFormAt 5 = .ok (.ifCond .eq 21, 3) := by decide +kernel
theorem dX5_hasFormAt_8 : decode cX5_hasFormAt 8 = .ok (.aload_n 3, 1) := by decide +kernel
theorem dX5_hasFormAt_9 : decode cX5_hasFormAt 9 = .ok (.aload_n 0, 1) := by decide +kernel
theorem dX5_hasFormAt_10 : decode cX5_hasFormAt 10 = .ok (.getfield 9, 3) := by decide +kernel
theorem dX5_hasFormAt_13 : decode cX5_hasFormAt 13 = .ok (.iload_n 1, 1) := by decide +kernel
theorem dX5_hasFormAt_14 : decode cX5_hasFormAt 14 = .ok (.iaload, 1) := by decide +kernel
theorem dX5_hasFormAt_15 : decode cX5_hasFormAt 15 = .ok (.iload_n 2, 1) := by decide +kernel
theorem dX5_hasFormAt_16 : decode cX5_hasFormAt 16 = .ok (.invokevirtual 23, 3) := by decide +kernel
theorem dX5_hasFormAt_19 : decode cX5_hasFormAt 19 = .ok (.ifCond .eq 7, 3) := by decide +kernel
theorem dX5_hasFormAt_22 : decode cX5_hasFormAt 22 = .ok (.iconst 1, 1) := by decide +kernel
theorem dX5_hasFormAt_23 : decode cX5_hasFormAt 23 = .ok (.goto 4, 3) := by decide +kernel
theorem dX5_hasFormAt_26 : decode cX5_hasFormAt 26 = .ok (.iconst 0, 1) := by decide +kernel
theorem dX5_hasFormAt_27 : decode cX5_hasFormAt 27 = .ok (.ireturn, 1) := by decide +kernel
theorem dX6_init_0 : decode cX6_init 0 = .ok (.aload_n 0, 1) := by decide +kernel
theorem dX6_init_1 : decode cX6_init 1 = .ok (.iload_n 1, 1) := by decide +kernel
theorem dX6_init_2 : decode cX6_init 2 = .ok (.invokespecial 3, 3) := by decide +kernel
theorem dX6_init_5 : decode cX6_init 5 = .ok (.aload_n 0, 1) := by decide +kernel
theorem dX6_init_6 : decode cX6_init 6 = .ok (.iload_n 2, 1) := by decide +kernel
theorem dX6_init_7 : decode cX6_init 7 = .ok (.putfield 9, 3) := by decide +kernel
theorem dX6_init_10 : decode cX6_init 10 = .ok (.aload_n 0, 1) := by decide +kernel
theorem dX6_init_11 : decode cX6_init 11 = .ok (.iload_n 3, 1) := by decide +kernel
theorem dX6_init_12 : decode cX6_init 12 = .ok (.putfield 15, 3) := by decide +kernel
theorem dX6_init_15 : decode cX6_init 15 = .ok (.aload_n 0, 1) := by decide +kernel
theorem dX6_init_16 : decode cX6_init 16 = .ok (.iload 4, 2) := by decide +kernel
theorem dX6_init_18 : decode cX6_init 18 = .ok (.putfield 18, 3) := by decide +kernel
theorem dX6_init_21 : decode cX6_init 21 = .ok (.return_, 1) := by decide +kernel
theorem dX6_find_0 : decode cX6_find 0 = .ok (.iconst 0, 1) := by decide +kernel
theorem dX6_find_1 : decode cX6_find 1 = .ok (.istore 5, 2) := by decide +kernel
theorem dX6_find_3 : decode cX6_find 3 = .ok (.iload 5, 2) := by decide +kernel
theorem dX6_find_5 : decode cX6_find 5 = .ok (.bipush 6, 2) := by decide +kernel
theorem dX6_find_7 : decode cX6_find 7 = .ok (.if_icmp .ge 34, 3) := by decide +kernel
theorem dX6_find_10 : decode cX6_find 10 = .ok (.aload_n 3, 1) := by decide +kernel
theorem dX6_find_11 : decode cX6_find 11 = .ok (.iload 5, 2) := by decide +kernel
theorem dX6_find_13 : decode cX6_find 13 = .ok (.aload_n 0, 1) := by decide +kernel
theorem dX6_find_14 : decode cX6_find 14 = .ok (.getfield 9, 3) := by decide +kernel
theorem dX6_find_17 : decode cX6_find 17 = .ok (.aload_n 2, 1) := by decide +kernel
theorem dX6_find_18 : decode cX6_find 18 = .ok (.invokevirtual 21, 3) := by decide +kernel
theorem dX6_find_21 : decode cX6_find 21 = .ok (.ifCond .eq 14, 3) := by decide +kernel
theorem dX6_find_24 : decode cX6_find 24 = .ok (.aload_n 0, 1) := by decide +kernel
theorem dX6_find_25 : decode cX6_find 25 = .ok (.iload 5, 2) := by decide +kernel
theorem dX6_find_27 : decode cX6_find 27 = .ok (.iload_n 1, 1) := by decide +kernel
theorem dX6_find_28 : decode cX6_find 28 = .ok (.aload_n 2, 1) := by decide +kernel
theorem dX6_find_29 : decode cX6_find 29 = .ok (.aload_n 3, 1) := by decide +kernel
theorem dX6_find_30 : decode cX6_find 30 = .ok (.aload 4, 2) := by decide +kernel
theorem dX6_find_32 : decode cX6_find 32 = .ok (.invokevirtual 27, 3) := by decide +kernel
theorem dX6_find_35 : decode cX6_find 35 = .ok (.iinc 5 1, 3) := by decide +kernel
theorem dX6_find_38 : decode cX6_find 38 = .ok (.goto (-35), 3) := by decide +kernel
theorem dX6_find_41 : decode cX6_find 41 = .ok (.return_, 1) := by decide +kernel
theorem dX6_findFrom_0 : decode cX6_findFrom 0 = .ok (.iconst 0, 1) := by decide +kernel
theorem dX6_findFrom_1 : decode cX6_findFrom 1 = .ok (.istore 6, 2) := by decide +kernel
theorem dX6_findFrom_3 : decode cX6_findFrom 3 = .ok (.iload 6, 2) := by decide +kernel
theorem dX6_findFrom_5 : decode cX6_findFrom 5 = .ok (.aload_n 0, 1) := by decide +kernel
theorem dX6_findFrom_6 : decode cX6_findFrom 6 = .ok (.getfield 18, 3) := by decide +kernel
theorem dX6_findFrom_9 : decode cX6_findFrom 9 = .ok (.if_icmp .gt 50, 3) := by decide +kernel
theorem dX6_findFrom_12 : decode cX6_findFrom 12 = .ok (.iload_n 1, 1) := by decide +kernel
theorem dX6_findFrom_13 : decode cX6_findFrom 13 = .ok (.iconst 1, 1) := by decide +kernel
theorem dX6_findFrom_14 : decode cX6_findFrom 14 = .ok (.iadd, 1) := by decide +kernel
theorem dX6_findFrom_15 : decode cX6_findFrom 15 = .ok (.iload 6, 2) := by decide +kernel
theorem dX6_findFrom_17 : decode cX6_findFrom 17 = .ok (.iadd, 1) := by decide +kernel
theorem dX6_findFrom_18 : decode cX6_findFrom 18 = .ok (.istore 7, 2) := by decide +kernel
theorem dX6_findFrom_20 : decode cX6_findFrom 20 = .ok (.aload 4, 2) := by decide +kernel
theorem dX6_findFrom_22 : decode cX6_findFrom 22 = .ok (.iload 7, 2) := by decide +kernel
theorem dX6_findFrom_24 : decode cX6_findFrom 24 = .ok (.aload_n 0, 1) := by decide +kernel
theorem dX6_findFrom_25 : decode cX6_findFrom 25 = .ok (.getfield 15, 3) := by decide +kernel
theorem dX6_findFrom_28 : decode cX6_findFrom 28 = .ok (.aload_n 3, 1) := by decide +kernel
theorem dX6_findFrom_29 : decode cX6_findFrom 29 = .ok (.invokevirtual 21, 3) := by decide +kernel
theorem dX6_findFrom_32 : decode cX6_findFrom 32 = .ok (.ifCond .eq 21, 3) := by decide +kernel
theorem dX6_findFrom_35 : decode cX6_findFrom 35 = .ok (.aload 5, 2) := by decide +kernel
theorem dX6_findFrom_37 : decode cX6_findFrom 37 = .ok (.iload_n 2, 1) := by decide +kernel
theorem dX6_findFrom_38 : decode cX6_findFrom 38 = .ok (.iconst 1, 1) := by decide +kernel
theorem dX6_findFrom_39 : decode cX6_findFrom 39 = .ok (.iload_n 1, 1) := by decide +kernel
theorem dX6_findFrom_40 : decode cX6_findFrom 40 = .ok (.ishl, 1) := by decide +kernel
theorem dX6_findFrom_41 : decode cX6_findFrom 41 = .ok (.iconst 1, 1) := by decide +kernel
theorem dX6_findFrom_42 : decode cX6_findFrom 42 = .ok (.iload 7, 2) := by decide +kernel
theorem dX6_findFrom_44 : decode cX6_findFrom 44 = .ok (.ishl, 1) := by decide +kernel
theorem dX6_findFrom_45 : decode cX6_findFrom 45 = .ok (.ior, 1) := by decide +kernel
theorem dX6_findFrom_46 : decode cX6_findFrom 46 = .ok (.aload_n 0, 1) := by decide +kernel
theorem dX6_findFrom_47 : decode cX6_findFrom 47 = .ok (.getfield 31, 3) := by decide +kernel
theorem dX6_findFrom_50 : decode cX6_findFrom 50 = .ok (.invokevirtual 34, 3) := by decide +kernel
theorem dX6_findFrom_53 : decode cX6_findFrom 53 = .ok (.iinc 6 1, 3) := by decide +kernel
theorem dX6_findFrom_56 : decode cX6_findFrom 56 = .ok (.goto (-53), 3) := by decide +kernel
theorem dX6_findFrom_59 : decode cX6_findFrom 59 = .ok (.return_, 1) := by decide +kernel
theorem dX7_init_0 : decode cX7_init 0 = .ok (.aload_n 0, 1) := by decide +kernel
theorem dX7_init_1 : decode cX7_init 1 = .ok (.invokespecial 3, 3) := by decide +kernel
theorem dX7_init_4 : decode cX7_init 4 = .ok (.aload_n 0, 1) := by decide +kernel
theorem dX7_init_5 : decode cX7_init 5 = .ok (.bipush 120, 2) := by decide +kernel
theorem dX7_init_7 : decode cX7_init 7 = .ok (.newarray .int, 2) := by decide +kernel
theorem dX7_init_9 : decode cX7_init 9 = .ok (.putfield 9, 3) := by decide +kernel
theorem dX7_init_12 : decode cX7_init 12 = .ok (.aload_n 0, 1) := by decide +kernel
theorem dX7_init_13 : decode cX7_init 13 = .ok (.bipush 120, 2) := by decide +kernel
theorem dX7_init_15 : decode cX7_init 15 = .ok (.newarray .int, 2) := by decide +kernel
theorem dX7_init_17 : decode cX7_init 17 = .ok (.putfield 15, 3) := by decide +kernel
theorem dX7_init_20 : decode cX7_init 20 = .ok (.aload_n 0, 1) := by decide +kernel
theorem dX7_init_21 : decode cX7_init 21 = .ok (.bipush 120, 2) := by decide +kernel
theorem dX7_init_23 : decode cX7_init 23 = .ok (.newarray .int, 2) := by decide +kernel
theorem dX7_init_25 : decode cX7_init 25 = .ok (.putfield 18, 3) := by decide +kernel
theorem dX7_init_28 : decode cX7_init 28 = .ok (.return_, 1) := by decide +kernel
theorem dX7_empty_0 : decode cX7_empty 0 = .ok (.aload_n 0, 1) := by decide +kernel
theorem dX7_empty_1 : decode cX7_empty 1 = .ok (.iconst 0, 1) := by decide +kernel
theorem dX7_empty_2 : decode cX7_empty 2 = .ok (.putfield 21, 3) := by decide +kernel
theorem dX7_empty_5 : decode cX7_empty 5 = .ok (.return_, 1) := by decide +kernel
theorem dX7_put_0 : decode cX7_put 0 = .ok (.aload_n 0, 1) := by decide +kernel
theorem dX7_put_1 : decode cX7_put 1 = .ok (.getfield 21, 3) := by decide +kernel
theorem dX7_put_4 : decode cX7_put 4 = .ok (.bipush 120, 2) := by decide +kernel
theorem dX7_put_6 : decode cX7_put 6 = .ok (.if_icmp .ge 43, 3) := by decide +kernel
theorem dX7_put_9 : decode cX7_put 9 = .ok (.aload_n 0, 1) := by decide +kernel
theorem dX7_put_10 : decode cX7_put 10 = .ok (.getfield 9, 3) := by decide +kernel
theorem dX7_put_13 : decode cX7_put 13 = .ok (.aload_n 0, 1) := by decide +kernel
theorem dX7_put_14 : decode cX7_put 14 = .ok (.getfield 21, 3) := by decide +kernel
theorem dX7_put_17 : decode cX7_put 17 = .ok (.iload_n 1, 1) := by decide +kernel
theorem dX7_put_18 : decode cX7_put 18 = .ok (.iastore, 1) := by decide +kernel
theorem dX7_put_19 : decode cX7_put 19 = .ok (.aload_n 0, 1) := by decide +kernel
theorem dX7_put_20 : decode cX7_put 20 = .ok (.getfield 15, 3) := by decide +kernel
theorem dX7_put_23 : decode cX7_put 23 = .ok (.aload_n 0, 1) := by decide +kernel
theorem dX7_put_24 : decode cX7_put 24 = .ok (.getfield 21, 3) := by decide +kernel
theorem dX7_put_27 : decode cX7_put 27 = .ok (.iload_n 2, 1) := by decide +kernel
theorem dX7_put_28 : decode cX7_put 28 = .ok (.iastore, 1) := by decide +kernel
theorem dX7_put_29 : decode cX7_put 29 = .ok (.aload_n 0, 1) := by decide +kernel
theorem dX7_put_30 : decode cX7_put 30 = .ok (.getfield 18, 3) := by decide +kernel
theorem dX7_put_33 : decode cX7_put 33 = .ok (.aload_n 0, 1) := by decide +kernel
theorem dX7_put_34 : decode cX7_put 34 = .ok (.getfield 21, 3) := by decide +kernel
theorem dX7_put_37 : decode cX7_put 37 = .ok (.iload_n 3, 1) := by decide +kernel
theorem dX7_put_38 : decode cX7_put 38 = .ok (.iastore, 1) := by decide +kernel
theorem dX7_put_39 : decode cX7_put 39 = .ok (.aload_n 0, 1) := by decide +kernel
theorem dX7_put_40 : decode cX7_put 40 = .ok (.dup, 1) := by decide +kernel
theorem dX7_put_41 : decode cX7_put 41 = .ok (.getfield 21, 3) := by decide +kernel
theorem dX7_put_44 : decode cX7_put 44 = .ok (.iconst 1, 1) := by decide +kernel
theorem dX7_put_45 : decode cX7_put 45 = .ok (.iadd, 1) := by decide +kernel
theorem dX7_put_46 : decode cX7_put 46 = .ok (.putfield 21, 3) := by decide +kernel
theorem dX7_put_49 : decode cX7_put 49 = .ok (.return_, 1) := by decide +kernel
theorem dX7_has_0 : decode cX7_has 0 = .ok (.iload_n 1, 1) := by decide +kernel
theorem dX7_has_1 : decode cX7_has 1 = .ok (.ifCond .lt 21, 3) := by decide +kernel
theorem dX7_has_4 : decode cX7_has 4 = .ok (.iload_n 1, 1) := by decide +kernel
theorem dX7_has_5 : decode cX7_has 5 = .ok (.aload_n 0, 1) := by decide +kernel
theorem dX7_has_6 : decode cX7_has 6 = .ok (.getfield 21, 3) := by decide +kernel
theorem dX7_has_9 : decode cX7_has 9 = .ok (.if_icmp .ge 13, 3) := by decide +kernel
theorem dX7_has_12 : decode cX7_has 12 = .ok (.iload_n 1, 1) := by decide +kernel
theorem dX7_has_13 : decode cX7_has 13 = .ok (.bipush 120, 2) := by decide +kernel
theorem dX7_has_15 : decode cX7_has 15 = .ok (.if_icmp .ge 7, 3) := by decide +kernel
theorem dX7_has_18 : decode cX7_has 18 = .ok (.iconst 1, 1) := by decide +kernel
theorem dX7_has_19 : decode cX7_has 19 = .ok (.goto 4, 3) := by decide +kernel
theorem dX7_has_22 : decode cX7_has 22 = .ok (.iconst 0, 1) := by decide +kernel
theorem dX7_has_23 : decode cX7_has 23 = .ok (.ireturn, 1) := by decide +kernel
theorem dX7_entryOf_0 : decode cX7_entryOf 0 = .ok (.aload_n 0, 1) := by decide +kernel
theorem dX7_entryOf_1 : decode cX7_entryOf 1 = .ok (.iload_n 1, 1) := by decide +kernel
theorem dX7_entryOf_2 : decode cX7_entryOf 2 = .ok (.invokevirtual 25, 3) := by decide +kernel
theorem dX7_entryOf_5 : decode cX7_entryOf 5 = .ok (.ifCond .eq 12, 3) := by decide +kernel
theorem dX7_entryOf_8 : decode cX7_entryOf 8 = .ok (.aload_n 0, 1) := by decide +kernel
theorem dX7_entryOf_9 : decode cX7_entryOf 9 = .ok (.getfield 9, 3) := by decide +kernel
theorem dX7_entryOf_12 : decode cX7_entryOf 12 = .ok (.iload_n 1, 1) := by decide +kernel
theorem dX7_entryOf_13 : decode cX7_entryOf 13 = .ok (.iaload, 1) := by decide +kernel
theorem dX7_entryOf_14 : decode cX7_entryOf 14 = .ok (.goto 4, 3) := by decide +kernel
theorem dX7_entryOf_17 : decode cX7_entryOf 17 = .ok (.iconst (-1), 1) := by decide +kernel
theorem dX7_entryOf_18 : decode cX7_entryOf 18 = .ok (.ireturn, 1) := by decide +kernel
theorem dX7_placesOf_0 : decode cX7_placesOf 0 = .ok (.aload_n 0, 1) := by decide +kernel
theorem dX7_placesOf_1 : decode cX7_placesOf 1 = .ok (.iload_n 1, 1) := by decide +kernel
theorem dX7_placesOf_2 : decode cX7_placesOf 2 = .ok (.invokevirtual 25, 3) := by decide +kernel
theorem dX7_placesOf_5 : decode cX7_placesOf 5 = .ok (.ifCond .eq 12, 3) := by decide +kernel
theorem dX7_placesOf_8 : decode cX7_placesOf 8 = .ok (.aload_n 0, 1) := by decide +kernel
theorem dX7_placesOf_9 : decode cX7_placesOf 9 = .ok (.getfield 15, 3) := by decide +kernel
theorem dX7_placesOf_12 : decode cX7_placesOf 12 = .ok (.iload_n 1, 1) := by decide +kernel
theorem dX7_placesOf_13 : decode cX7_placesOf 13 = .ok (.iaload, 1) := by decide +kernel
theorem dX7_placesOf_14 : decode cX7_placesOf 14 = .ok (.goto 4, 3) := by decide +kernel
theorem dX7_placesOf_17 : decode cX7_placesOf 17 = .ok (.iconst 0, 1) := by decide +kernel
theorem dX7_placesOf_18 : decode cX7_placesOf 18 = .ok (.ireturn, 1) := by decide +kernel
theorem dX7_priceOf_0 : decode cX7_priceOf 0 = .ok (.aload_n 0, 1) := by decide +kernel
theorem dX7_priceOf_1 : decode cX7_priceOf 1 = .ok (.iload_n 1, 1) := by decide +kernel
theorem dX7_priceOf_2 : decode cX7_priceOf 2 = .ok (.invokevirtual 25, 3) := by decide +kernel
theorem dX7_priceOf_5 : decode cX7_priceOf 5 = .ok (.ifCond .eq 12, 3) := by decide +kernel
theorem dX7_priceOf_8 : decode cX7_priceOf 8 = .ok (.aload_n 0, 1) := by decide +kernel
theorem dX7_priceOf_9 : decode cX7_priceOf 9 = .ok (.getfield 18, 3) := by decide +kernel
theorem dX7_priceOf_12 : decode cX7_priceOf 12 = .ok (.iload_n 1, 1) := by decide +kernel
theorem dX7_priceOf_13 : decode cX7_priceOf 13 = .ok (.iaload, 1) := by decide +kernel
theorem dX7_priceOf_14 : decode cX7_priceOf 14 = .ok (.goto 4, 3) := by decide +kernel
theorem dX7_priceOf_17 : decode cX7_priceOf 17 = .ok (.iconst 0, 1) := by decide +kernel
theorem dX7_priceOf_18 : decode cX7_priceOf 18 = .ok (.ireturn, 1) := by decide +kernel
theorem dX7_fitsFrom_0 : decode cX7_fitsFrom 0 = .ok (.aload_n 0, 1) := by decide +kernel
theorem dX7_fitsFrom_1 : decode cX7_fitsFrom 1 = .ok (.iload_n 1, 1) := by decide +kernel
theorem dX7_fitsFrom_2 : decode cX7_fitsFrom 2 = .ok (.invokevirtual 29, 3) := by decide +kernel
theorem dX7_fitsFrom_5 : decode cX7_fitsFrom 5 = .ok (.istore 4, 2) := by decide +kernel
theorem dX7_fitsFrom_7 : decode cX7_fitsFrom 7 = .ok (.iload 4, 2) := by decide +kernel
theorem dX7_fitsFrom_9 : decode cX7_fitsFrom 9 = .ok (.invokestatic 33, 3) := by decide +kernel
theorem dX7_fitsFrom_12 : decode cX7_fitsFrom 12 = .ok (.iload_n 2, 1) := by decide +kernel
theorem dX7_fitsFrom_13 : decode cX7_fitsFrom 13 = .ok (.if_icmp .ne 14, 3) := by decide +kernel
theorem dX7_fitsFrom_16 : decode cX7_fitsFrom 16 = .ok (.iload 4, 2) := by decide +kernel
theorem dX7_fitsFrom_18 : decode cX7_fitsFrom 18 = .ok (.iload_n 3, 1) := by decide +kernel
theorem dX7_fitsFrom_19 : decode cX7_fitsFrom 19 = .ok (.iand, 1) := by decide +kernel
theorem dX7_fitsFrom_20 : decode cX7_fitsFrom 20 = .ok (.ifCond .ne 7, 3) := by decide +kernel
theorem dX7_fitsFrom_23 : decode cX7_fitsFrom 23 = .ok (.iconst 1, 1) := by decide +kernel
theorem dX7_fitsFrom_24 : decode cX7_fitsFrom 24 = .ok (.goto 4, 3) := by decide +kernel
theorem dX7_fitsFrom_27 : decode cX7_fitsFrom 27 = .ok (.iconst 0, 1) := by decide +kernel
theorem dX7_fitsFrom_28 : decode cX7_fitsFrom 28 = .ok (.ireturn, 1) := by decide +kernel
theorem dX7_leastOfAll_0 : decode cX7_leastOfAll 0 = .ok (.iload_n 3, 1) := by decide +kernel
theorem dX7_leastOfAll_1 : decode cX7_leastOfAll 1 = .ok (.istore 6, 2) := by decide +kernel
theorem dX7_leastOfAll_3 : decode cX7_leastOfAll 3 = .ok (.iload 5, 2) := by decide +kernel
theorem dX7_leastOfAll_5 : decode cX7_leastOfAll 5 = .ok (.bipush 6, 2) := by decide +kernel
theorem dX7_leastOfAll_7 : decode cX7_leastOfAll 7 = .ok (.if_icmp .lt 6, 3) := by decide +kernel
theorem dX7_leastOfAll_10 : decode cX7_leastOfAll 10 = .ok (.iload 6, 2) := by decide +kernel
theorem dX7_leastOfAll_12 : decode cX7_leastOfAll 12 = .ok (.ireturn, 1) := by decide +kernel
theorem dX7_leastOfAll_13 : decode cX7_leastOfAll 13 = .ok (.iload_n 1, 1) := by decide +kernel
theorem dX7_leastOfAll_14 : decode cX7_leastOfAll 14 = .ok (.istore 7, 2) := by decide +kernel
theorem dX7_leastOfAll_16 : decode cX7_leastOfAll 16 = .ok (.iload 7, 2) := by decide +kernel
theorem dX7_leastOfAll_18 : decode cX7_leastOfAll 18 = .ok (.aload_n 0, 1) := by decide +kernel
theorem dX7_leastOfAll_19 : decode cX7_leastOfAll 19 = .ok (.getfield 21, 3) := by decide +kernel
theorem dX7_leastOfAll_22 : decode cX7_leastOfAll 22 = .ok (.if_icmp .ge 74, 3) := by decide +kernel
theorem dX7_leastOfAll_25 : decode cX7_leastOfAll 25 = .ok (.aload_n 0, 1) := by decide +kernel
theorem dX7_leastOfAll_26 : decode cX7_leastOfAll 26 = .ok (.iload 7, 2) := by decide +kernel
theorem dX7_leastOfAll_28 : decode cX7_leastOfAll 28 = .ok (.invokevirtual 29, 3) := by decide +kernel
theorem dX7_leastOfAll_31 : decode cX7_leastOfAll 31 = .ok (.istore 8, 2) := by decide +kernel
theorem dX7_leastOfAll_33 : decode cX7_leastOfAll 33 = .ok (.iload 8, 2) := by decide +kernel
theorem dX7_leastOfAll_35 : decode cX7_leastOfAll 35 = .ok (.iload_n 2, 1) := by decide +kernel
theorem dX7_leastOfAll_36 : decode cX7_leastOfAll 36 = .ok (.iand, 1) := by decide +kernel
theorem dX7_leastOfAll_37 : decode cX7_leastOfAll 37 = .ok (.ifCond .ne 53, 3) := by decide +kernel
theorem dX7_leastOfAll_40 : decode cX7_leastOfAll 40 = .ok (.aload_n 0, 1) := by decide +kernel
theorem dX7_leastOfAll_41 : decode cX7_leastOfAll 41 = .ok (.iload 7, 2) := by decide +kernel
theorem dX7_leastOfAll_43 : decode cX7_leastOfAll 43 = .ok (.invokevirtual 38, 3) := by decide +kernel
theorem dX7_leastOfAll_46 : decode cX7_leastOfAll 46 = .ok (.iload 4, 2) := by decide +kernel
theorem dX7_leastOfAll_48 : decode cX7_leastOfAll 48 = .ok (.iload 8, 2) := by decide +kernel
theorem dX7_leastOfAll_50 : decode cX7_leastOfAll 50 = .ok (.invokestatic 41, 3) := by decide +kernel
theorem dX7_leastOfAll_53 : decode cX7_leastOfAll 53 = .ok (.imul, 1) := by decide +kernel
theorem dX7_leastOfAll_54 : decode cX7_leastOfAll 54 = .ok (.isub, 1) := by decide +kernel
theorem dX7_leastOfAll_55 : decode cX7_leastOfAll 55 = .ok (.istore 9, 2) := by decide +kernel
theorem dX7_leastOfAll_57 : decode cX7_leastOfAll 57 = .ok (.aload_n 0, 1) := by decide +kernel
theorem dX7_leastOfAll_58 : decode cX7_leastOfAll 58 = .ok (.iload 7, 2) := by decide +kernel
theorem dX7_leastOfAll_60 : decode cX7_leastOfAll 60 = .ok (.iconst 1, 1) := by decide +kernel
theorem dX7_leastOfAll_61 : decode cX7_leastOfAll 61 = .ok (.iadd, 1) := by decide +kernel
theorem dX7_leastOfAll_62 : decode cX7_leastOfAll 62 = .ok (.iload_n 2, 1) := by decide +kernel
theorem dX7_leastOfAll_63 : decode cX7_leastOfAll 63 = .ok (.iload 8, 2) := by decide +kernel
theorem dX7_leastOfAll_65 : decode cX7_leastOfAll 65 = .ok (.ior, 1) := by decide +kernel
theorem dX7_leastOfAll_66 : decode cX7_leastOfAll 66 = .ok (.iload_n 3, 1) := by decide +kernel
theorem dX7_leastOfAll_67 : decode cX7_leastOfAll 67 = .ok (.iload 9, 2) := by decide +kernel
theorem dX7_leastOfAll_69 : decode cX7_leastOfAll 69 = .ok (.iadd, 1) := by decide +kernel
theorem dX7_leastOfAll_70 : decode cX7_leastOfAll 70 = .ok (.iload 4, 2) := by decide +kernel
theorem dX7_leastOfAll_72 : decode cX7_leastOfAll 72 = .ok (.iload 5, 2) := by decide +kernel
theorem dX7_leastOfAll_74 : decode cX7_leastOfAll 74 = .ok (.iconst 1, 1) := by decide +kernel
theorem dX7_leastOfAll_75 : decode cX7_leastOfAll 75 = .ok (.iadd, 1) := by decide +kernel
theorem dX7_leastOfAll_76 : decode cX7_leastOfAll 76 = .ok (.invokestatic 44, 3) := by decide +kernel
theorem dX7_leastOfAll_79 : decode cX7_leastOfAll 79 = .ok (.istore 10, 2) := by decide +kernel
theorem dX7_leastOfAll_81 : decode cX7_leastOfAll 81 = .ok (.iload 6, 2) := by decide +kernel
theorem dX7_leastOfAll_83 : decode cX7_leastOfAll 83 = .ok (.iload 10, 2) := by decide +kernel
theorem dX7_leastOfAll_85 : decode cX7_leastOfAll 85 = .ok (.invokestatic 48, 3) := by decide +kernel
theorem dX7_leastOfAll_88 : decode cX7_leastOfAll 88 = .ok (.istore 6, 2) := by decide +kernel
theorem dX7_leastOfAll_90 : decode cX7_leastOfAll 90 = .ok (.iinc 7 1, 3) := by decide +kernel
theorem dX7_leastOfAll_93 : decode cX7_leastOfAll 93 = .ok (.goto (-77), 3) := by decide +kernel
theorem dX7_leastOfAll_96 : decode cX7_leastOfAll 96 = .ok (.iload 6, 2) := by decide +kernel
theorem dX7_leastOfAll_98 : decode cX7_leastOfAll 98 = .ok (.ireturn, 1) := by decide +kernel
theorem dX8_init_0 : decode cX8_init 0 = .ok (.aload_n 0, 1) := by decide +kernel
theorem dX8_init_1 : decode cX8_init 1 = .ok (.invokespecial 3, 3) := by decide +kernel
theorem dX8_init_4 : decode cX8_init 4 = .ok (.aload_n 0, 1) := by decide +kernel
theorem dX8_init_5 : decode cX8_init 5 = .ok (.new 9, 3) := by decide +kernel
theorem dX8_init_8 : decode cX8_init 8 = .ok (.dup, 1) := by decide +kernel
theorem dX8_init_9 : decode cX8_init 9 = .ok (.invokespecial 11, 3) := by decide +kernel
theorem dX8_init_12 : decode cX8_init 12 = .ok (.putfield 12, 3) := by decide +kernel
theorem dX8_init_15 : decode cX8_init 15 = .ok (.aload_n 0, 1) := by decide +kernel
theorem dX8_init_16 : decode cX8_init 16 = .ok (.new 16, 3) := by decide +kernel
theorem dX8_init_19 : decode cX8_init 19 = .ok (.dup, 1) := by decide +kernel
theorem dX8_init_20 : decode cX8_init 20 = .ok (.invokespecial 18, 3) := by decide +kernel
theorem dX8_init_23 : decode cX8_init 23 = .ok (.putfield 19, 3) := by decide +kernel
theorem dX8_init_26 : decode cX8_init 26 = .ok (.aload_n 0, 1) := by decide +kernel
theorem dX8_init_27 : decode cX8_init 27 = .ok (.new 23, 3) := by decide +kernel
theorem dX8_init_30 : decode cX8_init 30 = .ok (.dup, 1) := by decide +kernel
theorem dX8_init_31 : decode cX8_init 31 = .ok (.invokespecial 25, 3) := by decide +kernel
theorem dX8_init_34 : decode cX8_init 34 = .ok (.putfield 26, 3) := by decide +kernel
theorem dX8_init_37 : decode cX8_init 37 = .ok (.aload_n 0, 1) := by decide +kernel
theorem dX8_init_38 : decode cX8_init 38 = .ok (.new 30, 3) := by decide +kernel
theorem dX8_init_41 : decode cX8_init 41 = .ok (.dup, 1) := by decide +kernel
theorem dX8_init_42 : decode cX8_init 42 = .ok (.invokespecial 32, 3) := by decide +kernel
theorem dX8_init_45 : decode cX8_init 45 = .ok (.putfield 33, 3) := by decide +kernel
theorem dX8_init_48 : decode cX8_init 48 = .ok (.aload_n 0, 1) := by decide +kernel
theorem dX8_init_49 : decode cX8_init 49 = .ok (.new 37, 3) := by decide +kernel
theorem dX8_init_52 : decode cX8_init 52 = .ok (.dup, 1) := by decide +kernel
theorem dX8_init_53 : decode cX8_init 53 = .ok (.invokespecial 39, 3) := by decide +kernel
theorem dX8_init_56 : decode cX8_init 56 = .ok (.putfield 40, 3) := by decide +kernel
theorem dX8_init_59 : decode cX8_init 59 = .ok (.aload_n 0, 1) := by decide +kernel
theorem dX8_init_60 : decode cX8_init 60 = .ok (.bipush 8, 2) := by decide +kernel
theorem dX8_init_62 : decode cX8_init 62 = .ok (.anewarray 44, 3) := by decide +kernel
theorem dX8_init_65 : decode cX8_init 65 = .ok (.putfield 46, 3) := by decide +kernel
theorem dX8_init_68 : decode cX8_init 68 = .ok (.aload_n 0, 1) := by decide +kernel
theorem dX8_init_69 : decode cX8_init 69 = .ok (.iconst 4, 1) := by decide +kernel
theorem dX8_init_70 : decode cX8_init 70 = .ok (.newarray .int, 2) := by decide +kernel
theorem dX8_init_72 : decode cX8_init 72 = .ok (.putfield 50, 3) := by decide +kernel
theorem dX8_init_75 : decode cX8_init 75 = .ok (.aload_n 0, 1) := by decide +kernel
theorem dX8_init_76 : decode cX8_init 76 = .ok (.bipush 10, 2) := by decide +kernel
theorem dX8_init_78 : decode cX8_init 78 = .ok (.putfield 54, 3) := by decide +kernel
theorem dX8_init_81 : decode cX8_init 81 = .ok (.return_, 1) := by decide +kernel
theorem dX8_addRule_0 : decode cX8_addRule 0 = .ok (.iload_n 1, 1) := by decide +kernel
theorem dX8_addRule_1 : decode cX8_addRule 1 = .ok (.ifCond .lt 19, 3) := by decide +kernel
theorem dX8_addRule_4 : decode cX8_addRule 4 = .ok (.iload_n 1, 1) := by decide +kernel
theorem dX8_addRule_5 : decode cX8_addRule 5 = .ok (.iconst 3, 1) := by decide +kernel
theorem dX8_addRule_6 : decode cX8_addRule 6 = .ok (.if_icmp .ge 14, 3) := by decide +kernel
theorem dX8_addRule_9 : decode cX8_addRule 9 = .ok (.iload_n 2, 1) := by decide +kernel
theorem dX8_addRule_10 : decode cX8_addRule 10 = .ok (.iconst 1, 1) := by decide +kernel
theorem dX8_addRule_11 : decode cX8_addRule 11 = .ok (.if_icmp .lt 9, 3) := by decide +kernel
theorem dX8_addRule_14 : decode cX8_addRule 14 = .ok (.iload_n 2, 1) := by decide +kernel
theorem dX8_addRule_15 : decode cX8_addRule 15 = .ok (.bipush 50, 2) := by decide +kernel
theorem dX8_addRule_17 : decode cX8_addRule 17 = .ok (.if_icmp .le 13, 3) := by decide +kernel
theorem dX8_addRule_20 : decode cX8_addRule 20 = .ok (.new 58, 3) := by decide +kernel
theorem dX8_addRule_23 : decode cX8_addRule 23 = .ok (.dup, 1) := by decide +kernel
theorem dX8_addRule_24 : decode cX8_addRule 24 = .ok (.ldc 60, 2) := by decide +kernel
theorem dX8_addRule_26 : decode cX8_addRule 26 = .ok (.invokespecial 62, 3) := by decide +kernel
theorem dX8_addRule_29 : decode cX8_addRule 29 = .ok (.athrow, 1) := by decide +kernel
theorem dX8_addRule_30 : decode cX8_addRule 30 = .ok (.aload_n 0, 1) := by decide +kernel
theorem dX8_addRule_31 : decode cX8_addRule 31 = .ok (.getfield 12, 3) := by decide +kernel
theorem dX8_addRule_34 : decode cX8_addRule 34 = .ok (.invokevirtual 65, 3) := by decide +kernel
theorem dX8_addRule_37 : decode cX8_addRule 37 = .ok (.ifCond .eq 13, 3) := by decide +kernel
theorem dX8_addRule_40 : decode cX8_addRule 40 = .ok (.new 69, 3) := by decide +kernel
theorem dX8_addRule_43 : decode cX8_addRule 43 = .ok (.dup, 1) := by decide +kernel
theorem dX8_addRule_44 : decode cX8_addRule 44 = .ok (.ldc 71, 2) := by decide +kernel
theorem dX8_addRule_46 : decode cX8_addRule 46 = .ok (.invokespecial 73, 3) := by decide +kernel
theorem dX8_addRule_49 : decode cX8_addRule 49 = .ok (.athrow, 1) := by decide +kernel
theorem dX8_addRule_50 : decode cX8_addRule 50 = .ok (.aload_n 0, 1) := by decide +kernel
theorem dX8_addRule_51 : decode cX8_addRule 51 = .ok (.getfield 12, 3) := by decide +kernel
theorem dX8_addRule_54 : decode cX8_addRule 54 = .ok (.iload_n 1, 1) := by decide +kernel
theorem dX8_addRule_55 : decode cX8_addRule 55 = .ok (.iload_n 2, 1) := by decide +kernel
theorem dX8_addRule_56 : decode cX8_addRule 56 = .ok (.invokevirtual 74, 3) := by decide +kernel
theorem dX8_addRule_59 : decode cX8_addRule 59 = .ok (.ireturn, 1) := by decide +kernel
theorem dX8_part_0 : decode cX8_part 0 = .ok (.iload_n 1, 1) := by decide +kernel
theorem dX8_part_1 : decode cX8_part 1 = .ok (.iconst (-1), 1) := by decide +kernel
theorem dX8_part_2 : decode cX8_part 2 = .ok (.if_icmp .eq 7, 3) := by decide +kernel
theorem dX8_part_5 : decode cX8_part 5 = .ok (.iload_n 1, 1) := by decide +kernel
theorem dX8_part_6 : decode cX8_part 6 = .ok (.invokestatic 78, 3) := by decide +kernel
theorem dX8_part_9 : decode cX8_part 9 = .ok (.aload_n 0, 1) := by decide +kernel
theorem dX8_part_10 : decode cX8_part 10 = .ok (.getfield 86, 3) := by decide +kernel
theorem dX8_part_13 : decode cX8_part 13 = .ok (.aload_n 0, 1) := by decide +kernel
theorem dX8_part_14 : decode cX8_part 14 = .ok (.getfield 50, 3) := by decide +kernel
theorem dX8_part_17 : decode cX8_part 17 = .ok (.arraylength, 1) := by decide +kernel
theorem dX8_part_18 : decode cX8_part 18 = .ok (.if_icmp .lt 13, 3) := by decide +kernel
theorem dX8_part_21 : decode cX8_part 21 = .ok (.new 69, 3) := by decide +kernel
theorem dX8_part_24 : decode cX8_part 24 = .ok (.dup, 1) := by decide +kernel
theorem dX8_part_25 : decode cX8_part 25 = .ok (.ldc 89, 2) := by decide +kernel
theorem dX8_part_27 : decode cX8_part 27 = .ok (.invokespecial 73, 3) := by decide +kernel
theorem dX8_part_30 : decode cX8_part 30 = .ok (.athrow, 1) := by decide +kernel
theorem dX8_part_31 : decode cX8_part 31 = .ok (.iload_n 1, 1) := by decide +kernel
theorem dX8_part_32 : decode cX8_part 32 = .ok (.iconst (-1), 1) := by decide +kernel
theorem dX8_part_33 : decode cX8_part 33 = .ok (.if_icmp .ne 20, 3) := by decide +kernel
theorem dX8_part_36 : decode cX8_part 36 = .ok (.aload_n 0, 1) := by decide +kernel
theorem dX8_part_37 : decode cX8_part 37 = .ok (.getfield 86, 3) := by decide +kernel
theorem dX8_part_40 : decode cX8_part 40 = .ok (.ifCond .ne 13, 3) := by decide +kernel
theorem dX8_part_43 : decode cX8_part 43 = .ok (.new 69, 3) := by decide +kernel
theorem dX8_part_46 : decode cX8_part 46 = .ok (.dup, 1) := by decide +kernel
theorem dX8_part_47 : decode cX8_part 47 = .ok (.ldc 91, 2) := by decide +kernel
theorem dX8_part_49 : decode cX8_part 49 = .ok (.invokespecial 73, 3) := by decide +kernel
theorem dX8_part_52 : decode cX8_part 52 = .ok (.athrow, 1) := by decide +kernel
theorem dX8_part_53 : decode cX8_part 53 = .ok (.aload_n 0, 1) := by decide +kernel
theorem dX8_part_54 : decode cX8_part 54 = .ok (.getfield 50, 3) := by decide +kernel
theorem dX8_part_57 : decode cX8_part 57 = .ok (.aload_n 0, 1) := by decide +kernel
theorem dX8_part_58 : decode cX8_part 58 = .ok (.getfield 86, 3) := by decide +kernel
theorem dX8_part_61 : decode cX8_part 61 = .ok (.iload_n 1, 1) := by decide +kernel
theorem dX8_part_62 : decode cX8_part 62 = .ok (.iastore, 1) := by decide +kernel
theorem dX8_part_63 : decode cX8_part 63 = .ok (.aload_n 0, 1) := by decide +kernel
theorem dX8_part_64 : decode cX8_part 64 = .ok (.dup, 1) := by decide +kernel
theorem dX8_part_65 : decode cX8_part 65 = .ok (.getfield 86, 3) := by decide +kernel
theorem dX8_part_68 : decode cX8_part 68 = .ok (.iconst 1, 1) := by decide +kernel
theorem dX8_part_69 : decode cX8_part 69 = .ok (.iadd, 1) := by decide +kernel
theorem dX8_part_70 : decode cX8_part 70 = .ok (.putfield 86, 3) := by decide +kernel
theorem dX8_part_73 : decode cX8_part 73 = .ok (.aload_n 0, 1) := by decide +kernel
theorem dX8_part_74 : decode cX8_part 74 = .ok (.getfield 86, 3) := by decide +kernel
theorem dX8_part_77 : decode cX8_part 77 = .ok (.ireturn, 1) := by decide +kernel
theorem dX8_addPhrase_0 : decode cX8_addPhrase 0 = .ok (.iload_n 1, 1) := by decide +kernel
theorem dX8_addPhrase_1 : decode cX8_addPhrase 1 = .ok (.invokestatic 93, 3) := by decide +kernel
theorem dX8_addPhrase_4 : decode cX8_addPhrase 4 = .ok (.aload_n 0, 1) := by decide +kernel
theorem dX8_addPhrase_5 : decode cX8_addPhrase 5 = .ok (.getfield 86, 3) := by decide +kernel
theorem dX8_addPhrase_8 : decode cX8_addPhrase 8 = .ok (.iconst 1, 1) := by decide +kernel
theorem dX8_addPhrase_9 : decode cX8_addPhrase 9 = .ok (.if_icmp .lt 15, 3) := by decide +kernel
theorem dX8_addPhrase_12 : decode cX8_addPhrase 12 = .ok (.aload_n 0, 1) := by decide +kernel
theorem dX8_addPhrase_13 : decode cX8_addPhrase 13 = .ok (.getfield 86, 3) := by decide +kernel
theorem dX8_addPhrase_16 : decode cX8_addPhrase 16 = .ok (.aload_n 0, 1) := by decide +kernel
theorem dX8_addPhrase_17 : decode cX8_addPhrase 17 = .ok (.getfield 50, 3) := by decide +kernel
theorem dX8_addPhrase_20 : decode cX8_addPhrase 20 = .ok (.arraylength, 1) := by decide +kernel
theorem dX8_addPhrase_21 : decode cX8_addPhrase 21 = .ok (.if_icmp .le 13, 3) := by decide +kernel
theorem dX8_addPhrase_24 : decode cX8_addPhrase 24 = .ok (.new 69, 3) := by decide +kernel
theorem dX8_addPhrase_27 : decode cX8_addPhrase 27 = .ok (.dup, 1) := by decide +kernel
theorem dX8_addPhrase_28 : decode cX8_addPhrase 28 = .ok (.ldc 96, 2) := by decide +kernel
theorem dX8_addPhrase_30 : decode cX8_addPhrase 30 = .ok (.invokespecial 73, 3) := by decide +kernel
theorem dX8_addPhrase_33 : decode cX8_addPhrase 33 = .ok (.athrow, 1) := by decide +kernel
theorem dX8_addPhrase_34 : decode cX8_addPhrase 34 = .ok (.aload_n 0, 1) := by decide +kernel
theorem dX8_addPhrase_35 : decode cX8_addPhrase 35 = .ok (.getfield 50, 3) := by decide +kernel
theorem dX8_addPhrase_38 : decode cX8_addPhrase 38 = .ok (.aload_n 0, 1) := by decide +kernel
theorem dX8_addPhrase_39 : decode cX8_addPhrase 39 = .ok (.getfield 86, 3) := by decide +kernel
theorem dX8_addPhrase_42 : decode cX8_addPhrase 42 = .ok (.iconst 1, 1) := by decide +kernel
theorem dX8_addPhrase_43 : decode cX8_addPhrase 43 = .ok (.isub, 1) := by decide +kernel
theorem dX8_addPhrase_44 : decode cX8_addPhrase 44 = .ok (.iaload, 1) := by decide +kernel
theorem dX8_addPhrase_45 : decode cX8_addPhrase 45 = .ok (.iconst (-1), 1) := by decide +kernel
theorem dX8_addPhrase_46 : decode cX8_addPhrase 46 = .ok (.if_icmp .ne 13, 3) := by decide +kernel
theorem dX8_addPhrase_49 : decode cX8_addPhrase 49 = .ok (.new 69, 3) := by decide +kernel
theorem dX8_addPhrase_52 : decode cX8_addPhrase 52 = .ok (.dup, 1) := by decide +kernel
theorem dX8_addPhrase_53 : decode cX8_addPhrase 53 = .ok (.ldc 98, 2) := by decide +kernel
theorem dX8_addPhrase_55 : decode cX8_addPhrase 55 = .ok (.invokespecial 73, 3) := by decide +kernel
theorem dX8_addPhrase_58 : decode cX8_addPhrase 58 = .ok (.athrow, 1) := by decide +kernel
theorem dX8_addPhrase_59 : decode cX8_addPhrase 59 = .ok (.aload_n 0, 1) := by decide +kernel
theorem dX8_addPhrase_60 : decode cX8_addPhrase 60 = .ok (.invokevirtual 100, 3) := by decide +kernel
theorem dX8_addPhrase_63 : decode cX8_addPhrase 63 = .ok (.new 103, 3) := by decide +kernel
theorem dX8_addPhrase_66 : decode cX8_addPhrase 66 = .ok (.dup, 1) := by decide +kernel
theorem dX8_addPhrase_67 : decode cX8_addPhrase 67 = .ok (.iload_n 1, 1) := by decide +kernel
theorem dX8_addPhrase_68 : decode cX8_addPhrase 68 = .ok (.aload_n 0, 1) := by decide +kernel
theorem dX8_addPhrase_69 : decode cX8_addPhrase 69 = .ok (.getfield 50, 3) := by decide +kernel
theorem dX8_addPhrase_72 : decode cX8_addPhrase 72 = .ok (.aload_n 0, 1) := by decide +kernel
theorem dX8_addPhrase_73 : decode cX8_addPhrase 73 = .ok (.getfield 86, 3) := by decide +kernel
theorem dX8_addPhrase_76 : decode cX8_addPhrase 76 = .ok (.invokestatic 105, 3) := by decide +kernel
theorem dX8_addPhrase_79 : decode cX8_addPhrase 79 = .ok (.invokespecial 111, 3) := by decide +kernel
theorem dX8_addPhrase_82 : decode cX8_addPhrase 82 = .ok (.astore_n 2, 1) := by decide +kernel
theorem dX8_addPhrase_83 : decode cX8_addPhrase 83 = .ok (.aload_n 0, 1) := by decide +kernel
theorem dX8_addPhrase_84 : decode cX8_addPhrase 84 = .ok (.iconst 0, 1) := by decide +kernel
theorem dX8_addPhrase_85 : decode cX8_addPhrase 85 = .ok (.putfield 86, 3) := by decide +kernel
theorem dX8_addPhrase_88 : decode cX8_addPhrase 88 = .ok (.aload_n 0, 1) := by decide +kernel
theorem dX8_addPhrase_89 : decode cX8_addPhrase 89 = .ok (.aload_n 2, 1) := by decide +kernel
theorem dX8_addPhrase_90 : decode cX8_addPhrase 90 = .ok (.invokevirtual 114, 3) := by decide +kernel
theorem dX8_addPhrase_93 : decode cX8_addPhrase 93 = .ok (.ireturn, 1) := by decide +kernel
theorem dX8_addSplit_0 : decode cX8_addSplit 0 = .ok (.iload_n 1, 1) := by decide +kernel
theorem dX8_addSplit_1 : decode cX8_addSplit 1 = .ok (.invokestatic 78, 3) := by decide +kernel
theorem dX8_addSplit_4 : decode cX8_addSplit 4 = .ok (.iload_n 2, 1) := by decide +kernel
theorem dX8_addSplit_5 : decode cX8_addSplit 5 = .ok (.invokestatic 78, 3) := by decide +kernel
theorem dX8_addSplit_8 : decode cX8_addSplit 8 = .ok (.iload_n 3, 1) := by decide +kernel
theorem dX8_addSplit_9 : decode cX8_addSplit 9 = .ok (.ifCond .lt 8, 3) := by decide +kernel
theorem dX8_addSplit_12 : decode cX8_addSplit 12 = .ok (.iload_n 3, 1) := by decide +kernel
theorem dX8_addSplit_13 : decode cX8_addSplit 13 = .ok (.iconst 4, 1) := by decide +kernel
theorem dX8_addSplit_14 : decode cX8_addSplit 14 = .ok (.if_icmp .le 13, 3) := by decide +kernel
theorem dX8_addSplit_17 : decode cX8_addSplit 17 = .ok (.new 58, 3) := by decide +kernel
theorem dX8_addSplit_20 : decode cX8_addSplit 20 = .ok (.dup, 1) := by decide +kernel
theorem dX8_addSplit_21 : decode cX8_addSplit 21 = .ok (.ldc 118, 2) := by decide +kernel
theorem dX8_addSplit_23 : decode cX8_addSplit 23 = .ok (.invokespecial 62, 3) := by decide +kernel
theorem dX8_addSplit_26 : decode cX8_addSplit 26 = .ok (.athrow, 1) := by decide +kernel
theorem dX8_addSplit_27 : decode cX8_addSplit 27 = .ok (.iload 4, 2) := by decide +kernel
theorem dX8_addSplit_29 : decode cX8_addSplit 29 = .ok (.invokestatic 93, 3) := by decide +kernel
theorem dX8_addSplit_32 : decode cX8_addSplit 32 = .ok (.aload_n 0, 1) := by decide +kernel
theorem dX8_addSplit_33 : decode cX8_addSplit 33 = .ok (.invokevirtual 100, 3) := by decide +kernel
theorem dX8_addSplit_36 : decode cX8_addSplit 36 = .ok (.aload_n 0, 1) := by decide +kernel
theorem dX8_addSplit_37 : decode cX8_addSplit 37 = .ok (.new 120, 3) := by decide +kernel
theorem dX8_addSplit_40 : decode cX8_addSplit 40 = .ok (.dup, 1) := by decide +kernel
theorem dX8_addSplit_41 : decode cX8_addSplit 41 = .ok (.iload 4, 2) := by decide +kernel
theorem dX8_addSplit_43 : decode cX8_addSplit 43 = .ok (.iload_n 1, 1) := by decide +kernel
theorem dX8_addSplit_44 : decode cX8_addSplit 44 = .ok (.iload_n 2, 1) := by decide +kernel
theorem dX8_addSplit_45 : decode cX8_addSplit 45 = .ok (.iload_n 3, 1) := by decide +kernel
theorem dX8_addSplit_46 : decode cX8_addSplit 46 = .ok (.invokespecial 122, 3) := by decide +kernel
theorem dX8_addSplit_49 : decode cX8_addSplit 49 = .ok (.invokevirtual 114, 3) := by decide +kernel
theorem dX8_addSplit_52 : decode cX8_addSplit 52 = .ok (.ireturn, 1) := by decide +kernel
theorem dX8_takeOut_0 : decode cX8_takeOut 0 = .ok (.aload_n 0, 1) := by decide +kernel
theorem dX8_takeOut_1 : decode cX8_takeOut 1 = .ok (.iload_n 1, 1) := by decide +kernel
theorem dX8_takeOut_2 : decode cX8_takeOut 2 = .ok (.invokevirtual 125, 3) := by decide +kernel
theorem dX8_takeOut_5 : decode cX8_takeOut 5 = .ok (.aload_n 0, 1) := by decide +kernel
theorem dX8_takeOut_6 : decode cX8_takeOut 6 = .ok (.getfield 46, 3) := by decide +kernel
theorem dX8_takeOut_9 : decode cX8_takeOut 9 = .ok (.iload_n 1, 1) := by decide +kernel
theorem dX8_takeOut_10 : decode cX8_takeOut 10 = .ok (.aconst_null, 1) := by decide +kernel
theorem dX8_takeOut_11 : decode cX8_takeOut 11 = .ok (.aastore, 1) := by decide +kernel
theorem dX8_takeOut_12 : decode cX8_takeOut 12 = .ok (.iconst 0, 1) := by decide +kernel
theorem dX8_takeOut_13 : decode cX8_takeOut 13 = .ok (.istore_n 2, 1) := by decide +kernel
theorem dX8_takeOut_14 : decode cX8_takeOut 14 = .ok (.iconst 0, 1) := by decide +kernel
theorem dX8_takeOut_15 : decode cX8_takeOut 15 = .ok (.istore_n 3, 1) := by decide +kernel
theorem dX8_takeOut_16 : decode cX8_takeOut 16 = .ok (.iload_n 3, 1) := by decide +kernel
theorem dX8_takeOut_17 : decode cX8_takeOut 17 = .ok (.iconst 3, 1) := by decide +kernel
theorem dX8_takeOut_18 : decode cX8_takeOut 18 = .ok (.if_icmp .ge 33, 3) := by decide +kernel
theorem dX8_takeOut_21 : decode cX8_takeOut 21 = .ok (.aload_n 0, 1) := by decide +kernel
theorem dX8_takeOut_22 : decode cX8_takeOut 22 = .ok (.getfield 40, 3) := by decide +kernel
theorem dX8_takeOut_25 : decode cX8_takeOut 25 = .ok (.iload_n 3, 1) := by decide +kernel
theorem dX8_takeOut_26 : decode cX8_takeOut 26 = .ok (.iload_n 1, 1) := by decide +kernel
theorem dX8_takeOut_27 : decode cX8_takeOut 27 = .ok (.invokevirtual 128, 3) := by decide +kernel
theorem dX8_takeOut_30 : decode cX8_takeOut 30 = .ok (.ifCond .eq 15, 3) := by decide +kernel
theorem dX8_takeOut_33 : decode cX8_takeOut 33 = .ok (.aload_n 0, 1) := by decide +kernel
theorem dX8_takeOut_34 : decode cX8_takeOut 34 = .ok (.getfield 40, 3) := by decide +kernel
theorem dX8_takeOut_37 : decode cX8_takeOut 37 = .ok (.iload_n 3, 1) := by decide +kernel
theorem dX8_takeOut_38 : decode cX8_takeOut 38 = .ok (.iload_n 1, 1) := by decide +kernel
theorem dX8_takeOut_39 : decode cX8_takeOut 39 = .ok (.invokevirtual 131, 3) := by decide +kernel
theorem dX8_takeOut_42 : decode cX8_takeOut 42 = .ok (.iinc 2 1, 3) := by decide +kernel
theorem dX8_takeOut_45 : decode cX8_takeOut 45 = .ok (.iinc 3 1, 3) := by decide +kernel
theorem dX8_takeOut_48 : decode cX8_takeOut 48 = .ok (.goto (-32), 3) := by decide +kernel
theorem dX8_takeOut_51 : decode cX8_takeOut 51 = .ok (.iload_n 2, 1) := by decide +kernel
theorem dX8_takeOut_52 : decode cX8_takeOut 52 = .ok (.ireturn, 1) := by decide +kernel
theorem dX8_say_0 : decode cX8_say 0 = .ok (.iload_n 1, 1) := by decide +kernel
theorem dX8_say_1 : decode cX8_say 1 = .ok (.invokestatic 78, 3) := by decide +kernel
theorem dX8_say_4 : decode cX8_say 4 = .ok (.aload_n 0, 1) := by decide +kernel
theorem dX8_say_5 : decode cX8_say 5 = .ok (.getfield 19, 3) := by decide +kernel
theorem dX8_say_8 : decode cX8_say 8 = .ok (.invokevirtual 135, 3) := by decide +kernel
theorem dX8_say_11 : decode cX8_say 11 = .ok (.ifCond .eq 13, 3) := by decide +kernel
theorem dX8_say_14 : decode cX8_say 14 = .ok (.new 69, 3) := by decide +kernel
theorem dX8_say_17 : decode cX8_say 17 = .ok (.dup, 1) := by decide +kernel
theorem dX8_say_18 : decode cX8_say 18 = .ok (.ldc 136, 2) := by decide +kernel
theorem dX8_say_20 : decode cX8_say 20 = .ok (.invokespecial 73, 3) := by decide +kernel
theorem dX8_say_23 : decode cX8_say 23 = .ok (.athrow, 1) := by decide +kernel
theorem dX8_say_24 : decode cX8_say 24 = .ok (.aload_n 0, 1) := by decide +kernel
theorem dX8_say_25 : decode cX8_say 25 = .ok (.getfield 19, 3) := by decide +kernel
theorem dX8_say_28 : decode cX8_say 28 = .ok (.iload_n 1, 1) := by decide +kernel
theorem dX8_say_29 : decode cX8_say 29 = .ok (.invokevirtual 138, 3) := by decide +kernel
theorem dX8_say_32 : decode cX8_say 32 = .ok (.ireturn, 1) := by decide +kernel
theorem dX8_clear_0 : decode cX8_clear 0 = .ok (.aload_n 0, 1) := by decide +kernel
theorem dX8_clear_1 : decode cX8_clear 1 = .ok (.getfield 19, 3) := by decide +kernel
theorem dX8_clear_4 : decode cX8_clear 4 = .ok (.invokevirtual 141, 3) := by decide +kernel
theorem dX8_clear_7 : decode cX8_clear 7 = .ok (.ireturn, 1) := by decide +kernel
theorem dX8_setBare_0 : decode cX8_setBare 0 = .ok (.iload_n 1, 1) := by decide +kernel
theorem dX8_setBare_1 : decode cX8_setBare 1 = .ok (.iconst 1, 1) := by decide +kernel
theorem dX8_setBare_2 : decode cX8_setBare 2 = .ok (.if_icmp .lt 9, 3) := by decide +kernel
theorem dX8_setBare_5 : decode cX8_setBare 5 = .ok (.iload_n 1, 1) := by decide +kernel
theorem dX8_setBare_6 : decode cX8_setBare 6 = .ok (.bipush 50, 2) := by decide +kernel
theorem dX8_setBare_8 : decode cX8_setBare 8 = .ok (.if_icmp .le 13, 3) := by decide +kernel
theorem dX8_setBare_11 : decode cX8_setBare 11 = .ok (.new 58, 3) := by decide +kernel
theorem dX8_setBare_14 : decode cX8_setBare 14 = .ok (.dup, 1) := by decide +kernel
theorem dX8_setBare_15 : decode cX8_setBare 15 = .ok (.ldc 145, 2) := by decide +kernel
theorem dX8_setBare_17 : decode cX8_setBare 17 = .ok (.invokespecial 62, 3) := by decide +kernel
theorem dX8_setBare_20 : decode cX8_setBare 20 = .ok (.athrow, 1) := by decide +kernel
theorem dX8_setBare_21 : decode cX8_setBare 21 = .ok (.aload_n 0, 1) := by decide +kernel
theorem dX8_setBare_22 : decode cX8_setBare 22 = .ok (.getfield 54, 3) := by decide +kernel
theorem dX8_setBare_25 : decode cX8_setBare 25 = .ok (.istore_n 2, 1) := by decide +kernel
theorem dX8_setBare_26 : decode cX8_setBare 26 = .ok (.aload_n 0, 1) := by decide +kernel
theorem dX8_setBare_27 : decode cX8_setBare 27 = .ok (.iload_n 1, 1) := by decide +kernel
theorem dX8_setBare_28 : decode cX8_setBare 28 = .ok (.putfield 54, 3) := by decide +kernel
theorem dX8_setBare_31 : decode cX8_setBare 31 = .ok (.iload_n 2, 1) := by decide +kernel
theorem dX8_setBare_32 : decode cX8_setBare 32 = .ok (.ireturn, 1) := by decide +kernel
theorem dX8_cost_0 : decode cX8_cost 0 = .ok (.aload_n 0, 1) := by decide +kernel
theorem dX8_cost_1 : decode cX8_cost 1 = .ok (.invokevirtual 147, 3) := by decide +kernel
theorem dX8_cost_4 : decode cX8_cost 4 = .ok (.aload_n 0, 1) := by decide +kernel
theorem dX8_cost_5 : decode cX8_cost 5 = .ok (.getfield 33, 3) := by decide +kernel
theorem dX8_cost_8 : decode cX8_cost 8 = .ok (.aload_n 0, 1) := by decide +kernel
theorem dX8_cost_9 : decode cX8_cost 9 = .ok (.getfield 26, 3) := by decide +kernel
theorem dX8_cost_12 : decode cX8_cost 12 = .ok (.aload_n 0, 1) := by decide +kernel
theorem dX8_cost_13 : decode cX8_cost 13 = .ok (.getfield 19, 3) := by decide +kernel
theorem dX8_cost_16 : decode cX8_cost 16 = .ok (.getfield 153, 3) := by decide +kernel
theorem dX8_cost_19 : decode cX8_cost 19 = .ok (.aload_n 0, 1) := by decide +kernel
theorem dX8_cost_20 : decode cX8_cost 20 = .ok (.getfield 54, 3) := by decide +kernel
theorem dX8_cost_23 : decode cX8_cost 23 = .ok (.invokevirtual 156, 3) := by decide +kernel
theorem dX8_cost_26 : decode cX8_cost 26 = .ok (.aload_n 0, 1) := by decide +kernel
theorem dX8_cost_27 : decode cX8_cost 27 = .ok (.getfield 33, 3) := by decide +kernel
theorem dX8_cost_30 : decode cX8_cost 30 = .ok (.invokevirtual 160, 3) := by decide +kernel
theorem dX8_cost_33 : decode cX8_cost 33 = .ok (.ireturn, 1) := by decide +kernel
theorem dX8_costByAll_0 : decode cX8_costByAll 0 = .ok (.aload_n 0, 1) := by decide +kernel
theorem dX8_costByAll_1 : decode cX8_costByAll 1 = .ok (.invokevirtual 147, 3) := by decide +kernel
theorem dX8_costByAll_4 : decode cX8_costByAll 4 = .ok (.aload_n 0, 1) := by decide +kernel
theorem dX8_costByAll_5 : decode cX8_costByAll 5 = .ok (.getfield 26, 3) := by decide +kernel
theorem dX8_costByAll_8 : decode cX8_costByAll 8 = .ok (.iconst 0, 1) := by decide +kernel
theorem dX8_costByAll_9 : decode cX8_costByAll 9 = .ok (.iconst 0, 1) := by decide +kernel
theorem dX8_costByAll_10 : decode cX8_costByAll 10 = .ok (.aload_n 0, 1) := by decide +kernel
theorem dX8_costByAll_11 : decode cX8_costByAll 11 = .ok (.getfield 54, 3) := by decide +kernel
theorem dX8_costByAll_14 : decode cX8_costByAll 14 = .ok (.aload_n 0, 1) := by decide +kernel
theorem dX8_costByAll_15 : decode cX8_costByAll 15 = .ok (.getfield 19, 3) := by decide +kernel
theorem dX8_costByAll_18 : decode cX8_costByAll 18 = .ok (.getfield 153, 3) := by decide +kernel
theorem dX8_costByAll_21 : decode cX8_costByAll 21 = .ok (.imul, 1) := by decide +kernel
theorem dX8_costByAll_22 : decode cX8_costByAll 22 = .ok (.aload_n 0, 1) := by decide +kernel
theorem dX8_costByAll_23 : decode cX8_costByAll 23 = .ok (.getfield 54, 3) := by decide +kernel
theorem dX8_costByAll_26 : decode cX8_costByAll 26 = .ok (.iconst 0, 1) := by decide +kernel
theorem dX8_costByAll_27 : decode cX8_costByAll 27 = .ok (.invokestatic 163, 3) := by decide +kernel
theorem dX8_costByAll_30 : decode cX8_costByAll 30 = .ok (.ireturn, 1) := by decide +kernel
theorem dX8_glossAt_0 : decode cX8_glossAt 0 = .ok (.aload_n 0, 1) := by decide +kernel
theorem dX8_glossAt_1 : decode cX8_glossAt 1 = .ok (.iload_n 1, 1) := by decide +kernel
theorem dX8_glossAt_2 : decode cX8_glossAt 2 = .ok (.invokevirtual 167, 3) := by decide +kernel
theorem dX8_glossAt_5 : decode cX8_glossAt 5 = .ok (.aload_n 0, 1) := by decide +kernel
theorem dX8_glossAt_6 : decode cX8_glossAt 6 = .ok (.invokevirtual 170, 3) := by decide +kernel
theorem dX8_glossAt_9 : decode cX8_glossAt 9 = .ok (.aload_n 0, 1) := by decide +kernel
theorem dX8_glossAt_10 : decode cX8_glossAt 10 = .ok (.getfield 26, 3) := by decide +kernel
theorem dX8_glossAt_13 : decode cX8_glossAt 13 = .ok (.aload_n 0, 1) := by decide +kernel
theorem dX8_glossAt_14 : decode cX8_glossAt 14 = .ok (.getfield 33, 3) := by decide +kernel
theorem dX8_glossAt_17 : decode cX8_glossAt 17 = .ok (.iload_n 1, 1) := by decide +kernel
theorem dX8_glossAt_18 : decode cX8_glossAt 18 = .ok (.invokevirtual 173, 3) := by decide +kernel
theorem dX8_glossAt_21 : decode cX8_glossAt 21 = .ok (.invokevirtual 176, 3) := by decide +kernel
theorem dX8_glossAt_24 : decode cX8_glossAt 24 = .ok (.ireturn, 1) := by decide +kernel
theorem dX8_placesAt_0 : decode cX8_placesAt 0 = .ok (.aload_n 0, 1) := by decide +kernel
theorem dX8_placesAt_1 : decode cX8_placesAt 1 = .ok (.iload_n 1, 1) := by decide +kernel
theorem dX8_placesAt_2 : decode cX8_placesAt 2 = .ok (.invokevirtual 167, 3) := by decide +kernel
theorem dX8_placesAt_5 : decode cX8_placesAt 5 = .ok (.aload_n 0, 1) := by decide +kernel
theorem dX8_placesAt_6 : decode cX8_placesAt 6 = .ok (.invokevirtual 170, 3) := by decide +kernel
theorem dX8_placesAt_9 : decode cX8_placesAt 9 = .ok (.aload_n 0, 1) := by decide +kernel
theorem dX8_placesAt_10 : decode cX8_placesAt 10 = .ok (.getfield 26, 3) := by decide +kernel
theorem dX8_placesAt_13 : decode cX8_placesAt 13 = .ok (.aload_n 0, 1) := by decide +kernel
theorem dX8_placesAt_14 : decode cX8_placesAt 14 = .ok (.getfield 33, 3) := by decide +kernel
theorem dX8_placesAt_17 : decode cX8_placesAt 17 = .ok (.iload_n 1, 1) := by decide +kernel
theorem dX8_placesAt_18 : decode cX8_placesAt 18 = .ok (.invokevirtual 173, 3) := by decide +kernel
theorem dX8_placesAt_21 : decode cX8_placesAt 21 = .ok (.invokevirtual 179, 3) := by decide +kernel
theorem dX8_placesAt_24 : decode cX8_placesAt 24 = .ok (.ireturn, 1) := by decide +kernel
theorem dX8_learn_0 : decode cX8_learn 0 = .ok (.iload_n 1, 1) := by decide +kernel
theorem dX8_learn_1 : decode cX8_learn 1 = .ok (.invokestatic 182, 3) := by decide +kernel
theorem dX8_learn_4 : decode cX8_learn 4 = .ok (.aload_n 0, 1) := by decide +kernel
theorem dX8_learn_5 : decode cX8_learn 5 = .ok (.iload_n 2, 1) := by decide +kernel
theorem dX8_learn_6 : decode cX8_learn 6 = .ok (.invokevirtual 125, 3) := by decide +kernel
theorem dX8_learn_9 : decode cX8_learn 9 = .ok (.aload_n 0, 1) := by decide +kernel
theorem dX8_learn_10 : decode cX8_learn 10 = .ok (.getfield 40, 3) := by decide +kernel
theorem dX8_learn_13 : decode cX8_learn 13 = .ok (.iload_n 1, 1) := by decide +kernel
theorem dX8_learn_14 : decode cX8_learn 14 = .ok (.iload_n 2, 1) := by decide +kernel
theorem dX8_learn_15 : decode cX8_learn 15 = .ok (.invokevirtual 128, 3) := by decide +kernel
theorem dX8_learn_18 : decode cX8_learn 18 = .ok (.ifCond .eq 13, 3) := by decide +kernel
theorem dX8_learn_21 : decode cX8_learn 21 = .ok (.new 69, 3) := by decide +kernel
theorem dX8_learn_24 : decode cX8_learn 24 = .ok (.dup, 1) := by decide +kernel
theorem dX8_learn_25 : decode cX8_learn 25 = .ok (.ldc 189, 2) := by decide +kernel
theorem dX8_learn_27 : decode cX8_learn 27 = .ok (.invokespecial 73, 3) := by decide +kernel
theorem dX8_learn_30 : decode cX8_learn 30 = .ok (.athrow, 1) := by decide +kernel
theorem dX8_learn_31 : decode cX8_learn 31 = .ok (.aload_n 0, 1) := by decide +kernel
theorem dX8_learn_32 : decode cX8_learn 32 = .ok (.getfield 40, 3) := by decide +kernel
theorem dX8_learn_35 : decode cX8_learn 35 = .ok (.iload_n 1, 1) := by decide +kernel
theorem dX8_learn_36 : decode cX8_learn 36 = .ok (.iload_n 2, 1) := by decide +kernel
theorem dX8_learn_37 : decode cX8_learn 37 = .ok (.iconst 1, 1) := by decide +kernel
theorem dX8_learn_38 : decode cX8_learn 38 = .ok (.aload_n 0, 1) := by decide +kernel
theorem dX8_learn_39 : decode cX8_learn 39 = .ok (.getfield 191, 3) := by decide +kernel
theorem dX8_learn_42 : decode cX8_learn 42 = .ok (.invokevirtual 194, 3) := by decide +kernel
theorem dX8_learn_45 : decode cX8_learn 45 = .ok (.aload_n 0, 1) := by decide +kernel
theorem dX8_learn_46 : decode cX8_learn 46 = .ok (.getfield 40, 3) := by decide +kernel
theorem dX8_learn_49 : decode cX8_learn 49 = .ok (.iload_n 1, 1) := by decide +kernel
theorem dX8_learn_50 : decode cX8_learn 50 = .ok (.invokevirtual 196, 3) := by decide +kernel
theorem dX8_learn_53 : decode cX8_learn 53 = .ok (.ireturn, 1) := by decide +kernel
theorem dX8_review_0 : decode cX8_review 0 = .ok (.iload_n 1, 1) := by decide +kernel
theorem dX8_review_1 : decode cX8_review 1 = .ok (.invokestatic 182, 3) := by decide +kernel
theorem dX8_review_4 : decode cX8_review 4 = .ok (.aload_n 0, 1) := by decide +kernel
theorem dX8_review_5 : decode cX8_review 5 = .ok (.iload_n 2, 1) := by decide +kernel
theorem dX8_review_6 : decode cX8_review 6 = .ok (.invokevirtual 125, 3) := by decide +kernel
theorem dX8_review_9 : decode cX8_review 9 = .ok (.aload_n 0, 1) := by decide +kernel
theorem dX8_review_10 : decode cX8_review 10 = .ok (.getfield 40, 3) := by decide +kernel
theorem dX8_review_13 : decode cX8_review 13 = .ok (.iload_n 1, 1) := by decide +kernel
theorem dX8_review_14 : decode cX8_review 14 = .ok (.iload_n 2, 1) := by decide +kernel
theorem dX8_review_15 : decode cX8_review 15 = .ok (.aload_n 0, 1) := by decide +kernel
theorem dX8_review_16 : decode cX8_review 16 = .ok (.getfield 191, 3) := by decide +kernel
theorem dX8_review_19 : decode cX8_review 19 = .ok (.invokevirtual 199, 3) := by decide +kernel
theorem dX8_review_22 : decode cX8_review 22 = .ok (.ifCond .ne 13, 3) := by decide +kernel
theorem dX8_review_25 : decode cX8_review 25 = .ok (.new 69, 3) := by decide +kernel
theorem dX8_review_28 : decode cX8_review 28 = .ok (.dup, 1) := by decide +kernel
theorem dX8_review_29 : decode cX8_review 29 = .ok (.ldc 203, 2) := by decide +kernel
theorem dX8_review_31 : decode cX8_review 31 = .ok (.invokespecial 73, 3) := by decide +kernel
theorem dX8_review_34 : decode cX8_review 34 = .ok (.athrow, 1) := by decide +kernel
theorem dX8_review_35 : decode cX8_review 35 = .ok (.iconst 2, 1) := by decide +kernel
theorem dX8_review_36 : decode cX8_review 36 = .ok (.aload_n 0, 1) := by decide +kernel
theorem dX8_review_37 : decode cX8_review 37 = .ok (.getfield 40, 3) := by decide +kernel
theorem dX8_review_40 : decode cX8_review 40 = .ok (.iload_n 1, 1) := by decide +kernel
theorem dX8_review_41 : decode cX8_review 41 = .ok (.iload_n 2, 1) := by decide +kernel
theorem dX8_review_42 : decode cX8_review 42 = .ok (.invokevirtual 205, 3) := by decide +kernel
theorem dX8_review_45 : decode cX8_review 45 = .ok (.imul, 1) := by decide +kernel
theorem dX8_review_46 : decode cX8_review 46 = .ok (.bipush 64, 2) := by decide +kernel
theorem dX8_review_48 : decode cX8_review 48 = .ok (.invokestatic 208, 3) := by decide +kernel
theorem dX8_review_51 : decode cX8_review 51 = .ok (.istore 4, 2) := by decide +kernel
theorem dX8_review_53 : decode cX8_review 53 = .ok (.iload_n 3, 1) := by decide +kernel
theorem dX8_review_54 : decode cX8_review 54 = .ok (.ifCond .eq 8, 3) := by decide +kernel
theorem dX8_review_57 : decode cX8_review 57 = .ok (.iload 4, 2) := by decide +kernel
theorem dX8_review_59 : decode cX8_review 59 = .ok (.goto 4, 3) := by decide +kernel
theorem dX8_review_62 : decode cX8_review 62 = .ok (.iconst 1, 1) := by decide +kernel
theorem dX8_review_63 : decode cX8_review 63 = .ok (.istore 5, 2) := by decide +kernel
theorem dX8_review_65 : decode cX8_review 65 = .ok (.aload_n 0, 1) := by decide +kernel
theorem dX8_review_66 : decode cX8_review 66 = .ok (.getfield 40, 3) := by decide +kernel
theorem dX8_review_69 : decode cX8_review 69 = .ok (.iload_n 1, 1) := by decide +kernel
theorem dX8_review_70 : decode cX8_review 70 = .ok (.iload_n 2, 1) := by decide +kernel
theorem dX8_review_71 : decode cX8_review 71 = .ok (.iload 5, 2) := by decide +kernel
theorem dX8_review_73 : decode cX8_review 73 = .ok (.aload_n 0, 1) := by decide +kernel
theorem dX8_review_74 : decode cX8_review 74 = .ok (.getfield 191, 3) := by decide +kernel
theorem dX8_review_77 : decode cX8_review 77 = .ok (.invokevirtual 194, 3) := by decide +kernel
theorem dX8_review_80 : decode cX8_review 80 = .ok (.iload 5, 2) := by decide +kernel
theorem dX8_review_82 : decode cX8_review 82 = .ok (.ireturn, 1) := by decide +kernel
theorem dX8_knows_0 : decode cX8_knows 0 = .ok (.iload_n 1, 1) := by decide +kernel
theorem dX8_knows_1 : decode cX8_knows 1 = .ok (.invokestatic 182, 3) := by decide +kernel
theorem dX8_knows_4 : decode cX8_knows 4 = .ok (.aload_n 0, 1) := by decide +kernel
theorem dX8_knows_5 : decode cX8_knows 5 = .ok (.iload_n 2, 1) := by decide +kernel
theorem dX8_knows_6 : decode cX8_knows 6 = .ok (.invokevirtual 125, 3) := by decide +kernel
theorem dX8_knows_9 : decode cX8_knows 9 = .ok (.aload_n 0, 1) := by decide +kernel
theorem dX8_knows_10 : decode cX8_knows 10 = .ok (.getfield 40, 3) := by decide +kernel
theorem dX8_knows_13 : decode cX8_knows 13 = .ok (.iload_n 1, 1) := by decide +kernel
theorem dX8_knows_14 : decode cX8_knows 14 = .ok (.iload_n 2, 1) := by decide +kernel
theorem dX8_knows_15 : decode cX8_knows 15 = .ok (.invokevirtual 205, 3) := by decide +kernel
theorem dX8_knows_18 : decode cX8_knows 18 = .ok (.bipush 8, 2) := by decide +kernel
theorem dX8_knows_20 : decode cX8_knows 20 = .ok (.if_icmp .lt 7, 3) := by decide +kernel
theorem dX8_knows_23 : decode cX8_knows 23 = .ok (.iconst 1, 1) := by decide +kernel
theorem dX8_knows_24 : decode cX8_knows 24 = .ok (.goto 4, 3) := by decide +kernel
theorem dX8_knows_27 : decode cX8_knows 27 = .ok (.iconst 0, 1) := by decide +kernel
theorem dX8_knows_28 : decode cX8_knows 28 = .ok (.ireturn, 1) := by decide +kernel
theorem dX8_due_0 : decode cX8_due 0 = .ok (.iload_n 1, 1) := by decide +kernel
theorem dX8_due_1 : decode cX8_due 1 = .ok (.invokestatic 182, 3) := by decide +kernel
theorem dX8_due_4 : decode cX8_due 4 = .ok (.iconst 0, 1) := by decide +kernel
theorem dX8_due_5 : decode cX8_due 5 = .ok (.istore_n 2, 1) := by decide +kernel
theorem dX8_due_6 : decode cX8_due 6 = .ok (.iconst 0, 1) := by decide +kernel
theorem dX8_due_7 : decode cX8_due 7 = .ok (.istore_n 3, 1) := by decide +kernel
theorem dX8_due_8 : decode cX8_due 8 = .ok (.iload_n 3, 1) := by decide +kernel
theorem dX8_due_9 : decode cX8_due 9 = .ok (.bipush 8, 2) := by decide +kernel
theorem dX8_due_11 : decode cX8_due 11 = .ok (.if_icmp .ge 28, 3) := by decide +kernel
theorem dX8_due_14 : decode cX8_due 14 = .ok (.aload_n 0, 1) := by decide +kernel
theorem dX8_due_15 : decode cX8_due 15 = .ok (.getfield 40, 3) := by decide +kernel
theorem dX8_due_18 : decode cX8_due 18 = .ok (.iload_n 1, 1) := by decide +kernel
theorem dX8_due_19 : decode cX8_due 19 = .ok (.iload_n 3, 1) := by decide +kernel
theorem dX8_due_20 : decode cX8_due 20 = .ok (.aload_n 0, 1) := by decide +kernel
theorem dX8_due_21 : decode cX8_due 21 = .ok (.getfield 191, 3) := by decide +kernel
theorem dX8_due_24 : decode cX8_due 24 = .ok (.invokevirtual 199, 3) := by decide +kernel
theorem dX8_due_27 : decode cX8_due 27 = .ok (.ifCond .eq 6, 3) := by decide +kernel
theorem dX8_due_30 : decode cX8_due 30 = .ok (.iinc 2 1, 3) := by decide +kernel
theorem dX8_due_33 : decode cX8_due 33 = .ok (.iinc 3 1, 3) := by decide +kernel
theorem dX8_due_36 : decode cX8_due 36 = .ok (.goto (-28), 3) := by decide +kernel
theorem dX8_due_39 : decode cX8_due 39 = .ok (.iload_n 2, 1) := by decide +kernel
theorem dX8_due_40 : decode cX8_due 40 = .ok (.ireturn, 1) := by decide +kernel
theorem dX8_nextDue_0 : decode cX8_nextDue 0 = .ok (.iload_n 1, 1) := by decide +kernel
theorem dX8_nextDue_1 : decode cX8_nextDue 1 = .ok (.invokestatic 182, 3) := by decide +kernel
theorem dX8_nextDue_4 : decode cX8_nextDue 4 = .ok (.aload_n 0, 1) := by decide +kernel
theorem dX8_nextDue_5 : decode cX8_nextDue 5 = .ok (.getfield 40, 3) := by decide +kernel
theorem dX8_nextDue_8 : decode cX8_nextDue 8 = .ok (.iload_n 1, 1) := by decide +kernel
theorem dX8_nextDue_9 : decode cX8_nextDue 9 = .ok (.invokevirtual 213, 3) := by decide +kernel
theorem dX8_nextDue_12 : decode cX8_nextDue 12 = .ok (.ireturn, 1) := by decide +kernel
theorem dX8_pass_0 : decode cX8_pass 0 = .ok (.iload_n 1, 1) := by decide +kernel
theorem dX8_pass_1 : decode cX8_pass 1 = .ok (.iconst 1, 1) := by decide +kernel
theorem dX8_pass_2 : decode cX8_pass 2 = .ok (.if_icmp .lt 9, 3) := by decide +kernel
theorem dX8_pass_5 : decode cX8_pass 5 = .ok (.iload_n 1, 1) := by decide +kernel
theorem dX8_pass_6 : decode cX8_pass 6 = .ok (.bipush 100, 2) := by decide +kernel
theorem dX8_pass_8 : decode cX8_pass 8 = .ok (.if_icmp .le 13, 3) := by decide +kernel
theorem dX8_pass_11 : decode cX8_pass 11 = .ok (.new 58, 3) := by decide +kernel
theorem dX8_pass_14 : decode cX8_pass 14 = .ok (.dup, 1) := by decide +kernel
theorem dX8_pass_15 : decode cX8_pass 15 = .ok (.ldc 216, 2) := by decide +kernel
theorem dX8_pass_17 : decode cX8_pass 17 = .ok (.invokespecial 62, 3) := by decide +kernel
theorem dX8_pass_20 : decode cX8_pass 20 = .ok (.athrow, 1) := by decide +kernel
theorem dX8_pass_21 : decode cX8_pass 21 = .ok (.aload_n 0, 1) := by decide +kernel
theorem dX8_pass_22 : decode cX8_pass 22 = .ok (.dup, 1) := by decide +kernel
theorem dX8_pass_23 : decode cX8_pass 23 = .ok (.getfield 191, 3) := by decide +kernel
theorem dX8_pass_26 : decode cX8_pass 26 = .ok (.iload_n 1, 1) := by decide +kernel
theorem dX8_pass_27 : decode cX8_pass 27 = .ok (.iadd, 1) := by decide +kernel
theorem dX8_pass_28 : decode cX8_pass 28 = .ok (.putfield 191, 3) := by decide +kernel
theorem dX8_pass_31 : decode cX8_pass 31 = .ok (.aload_n 0, 1) := by decide +kernel
theorem dX8_pass_32 : decode cX8_pass 32 = .ok (.getfield 191, 3) := by decide +kernel
theorem dX8_pass_35 : decode cX8_pass 35 = .ok (.ireturn, 1) := by decide +kernel
theorem dX8_needWord_0 : decode cX8_needWord 0 = .ok (.iload_n 0, 1) := by decide +kernel
theorem dX8_needWord_1 : decode cX8_needWord 1 = .ok (.ifCond .lt 9, 3) := by decide +kernel
theorem dX8_needWord_4 : decode cX8_needWord 4 = .ok (.iload_n 0, 1) := by decide +kernel
theorem dX8_needWord_5 : decode cX8_needWord 5 = .ok (.bipush 100, 2) := by decide +kernel
theorem dX8_needWord_7 : decode cX8_needWord 7 = .ok (.if_icmp .lt 13, 3) := by decide +kernel
theorem dX8_needWord_10 : decode cX8_needWord 10 = .ok (.new 218, 3) := by decide +kernel
theorem dX8_needWord_13 : decode cX8_needWord 13 = .ok (.dup, 1) := by decide +kernel
theorem dX8_needWord_14 : decode cX8_needWord 14 = .ok (.ldc 220, 2) := by decide +kernel
theorem dX8_needWord_16 : decode cX8_needWord 16 = .ok (.invokespecial 222, 3) := by decide +kernel
theorem dX8_needWord_19 : decode cX8_needWord 19 = .ok (.athrow, 1) := by decide +kernel
theorem dX8_needWord_20 : decode cX8_needWord 20 = .ok (.return_, 1) := by decide +kernel
theorem dX8_needCost_0 : decode cX8_needCost 0 = .ok (.iload_n 0, 1) := by decide +kernel
theorem dX8_needCost_1 : decode cX8_needCost 1 = .ok (.iconst 1, 1) := by decide +kernel
theorem dX8_needCost_2 : decode cX8_needCost 2 = .ok (.if_icmp .lt 9, 3) := by decide +kernel
theorem dX8_needCost_5 : decode cX8_needCost 5 = .ok (.iload_n 0, 1) := by decide +kernel
theorem dX8_needCost_6 : decode cX8_needCost 6 = .ok (.bipush 20, 2) := by decide +kernel
theorem dX8_needCost_8 : decode cX8_needCost 8 = .ok (.if_icmp .le 13, 3) := by decide +kernel
theorem dX8_needCost_11 : decode cX8_needCost 11 = .ok (.new 58, 3) := by decide +kernel
theorem dX8_needCost_14 : decode cX8_needCost 14 = .ok (.dup, 1) := by decide +kernel
theorem dX8_needCost_15 : decode cX8_needCost 15 = .ok (.ldc 145, 2) := by decide +kernel
theorem dX8_needCost_17 : decode cX8_needCost 17 = .ok (.invokespecial 62, 3) := by decide +kernel
theorem dX8_needCost_20 : decode cX8_needCost 20 = .ok (.athrow, 1) := by decide +kernel
theorem dX8_needCost_21 : decode cX8_needCost 21 = .ok (.return_, 1) := by decide +kernel
theorem dX8_needReader_0 : decode cX8_needReader 0 = .ok (.iload_n 0, 1) := by decide +kernel
theorem dX8_needReader_1 : decode cX8_needReader 1 = .ok (.ifCond .lt 8, 3) := by decide +kernel
theorem dX8_needReader_4 : decode cX8_needReader 4 = .ok (.iload_n 0, 1) := by decide +kernel
theorem dX8_needReader_5 : decode cX8_needReader 5 = .ok (.iconst 3, 1) := by decide +kernel
theorem dX8_needReader_6 : decode cX8_needReader 6 = .ok (.if_icmp .lt 13, 3) := by decide +kernel
theorem dX8_needReader_9 : decode cX8_needReader 9 = .ok (.new 218, 3) := by decide +kernel
theorem dX8_needReader_12 : decode cX8_needReader 12 = .ok (.dup, 1) := by decide +kernel
theorem dX8_needReader_13 : decode cX8_needReader 13 = .ok (.ldc 223, 2) := by decide +kernel
theorem dX8_needReader_15 : decode cX8_needReader 15 = .ok (.invokespecial 222, 3) := by decide +kernel
theorem dX8_needReader_18 : decode cX8_needReader 18 = .ok (.athrow, 1) := by decide +kernel
theorem dX8_needReader_19 : decode cX8_needReader 19 = .ok (.return_, 1) := by decide +kernel
theorem dX8_needEntry_0 : decode cX8_needEntry 0 = .ok (.iload_n 1, 1) := by decide +kernel
theorem dX8_needEntry_1 : decode cX8_needEntry 1 = .ok (.ifCond .lt 21, 3) := by decide +kernel
theorem dX8_needEntry_4 : decode cX8_needEntry 4 = .ok (.iload_n 1, 1) := by decide +kernel
theorem dX8_needEntry_5 : decode cX8_needEntry 5 = .ok (.aload_n 0, 1) := by decide +kernel
theorem dX8_needEntry_6 : decode cX8_needEntry 6 = .ok (.getfield 46, 3) := by decide +kernel
theorem dX8_needEntry_9 : decode cX8_needEntry 9 = .ok (.arraylength, 1) := by decide +kernel
theorem dX8_needEntry_10 : decode cX8_needEntry 10 = .ok (.if_icmp .ge 12, 3) := by decide +kernel
theorem dX8_needEntry_13 : decode cX8_needEntry 13 = .ok (.aload_n 0, 1) := by decide +kernel
theorem dX8_needEntry_14 : decode cX8_needEntry 14 = .ok (.getfield 46, 3) := by decide +kernel
theorem dX8_needEntry_17 : decode cX8_needEntry 17 = .ok (.iload_n 1, 1) := by decide +kernel
theorem dX8_needEntry_18 : decode cX8_needEntry 18 = .ok (.aaload, 1) := by decide +kernel
theorem dX8_needEntry_19 : decode cX8_needEntry 19 = .ok (.ifnonnull 13, 3) := by decide +kernel
theorem dX8_needEntry_22 : decode cX8_needEntry 22 = .ok (.new 225, 3) := by decide +kernel
theorem dX8_needEntry_25 : decode cX8_needEntry 25 = .ok (.dup, 1) := by decide +kernel
theorem dX8_needEntry_26 : decode cX8_needEntry 26 = .ok (.ldc 227, 2) := by decide +kernel
theorem dX8_needEntry_28 : decode cX8_needEntry 28 = .ok (.invokespecial 229, 3) := by decide +kernel
theorem dX8_needEntry_31 : decode cX8_needEntry 31 = .ok (.athrow, 1) := by decide +kernel
theorem dX8_needEntry_32 : decode cX8_needEntry 32 = .ok (.return_, 1) := by decide +kernel
theorem dX8_needRoomForEntry_0 : decode cX8_needRoomForEntry 0 = .ok (.aload_n 0, 1) := by decide +kernel
theorem dX8_needRoomForEntry_1 : decode cX8_needRoomForEntry 1 = .ok (.getfield 230, 3) := by decide +kernel
theorem dX8_needRoomForEntry_4 : decode cX8_needRoomForEntry 4 = .ok (.aload_n 0, 1) := by decide +kernel
theorem dX8_needRoomForEntry_5 : decode cX8_needRoomForEntry 5 = .ok (.getfield 46, 3) := by decide +kernel
theorem dX8_needRoomForEntry_8 : decode cX8_needRoomForEntry 8 = .ok (.arraylength, 1) := by decide +kernel
theorem dX8_needRoomForEntry_9 : decode cX8_needRoomForEntry 9 = .ok (.if_icmp .lt 13, 3) := by decide +kernel
theorem dX8_needRoomForEntry_12 : decode cX8_needRoomForEntry 12 = .ok (.new 69, 3) := by decide +kernel
theorem dX8_needRoomForEntry_15 : decode cX8_needRoomForEntry 15 = .ok (.dup, 1) := by decide +kernel
theorem dX8_needRoomForEntry_16 : decode cX8_needRoomForEntry 16 = .ok (.ldc 233, 2) := by decide +kernel
theorem dX8_needRoomForEntry_18 : decode cX8_needRoomForEntry 18 = .ok (.invokespecial 73, 3) := by decide +kernel
theorem dX8_needRoomForEntry_21 : decode cX8_needRoomForEntry 21 = .ok (.athrow, 1) := by decide +kernel
theorem dX8_needRoomForEntry_22 : decode cX8_needRoomForEntry 22 = .ok (.return_, 1) := by decide +kernel
theorem dX8_needPlace_0 : decode cX8_needPlace 0 = .ok (.aload_n 0, 1) := by decide +kernel
theorem dX8_needPlace_1 : decode cX8_needPlace 1 = .ok (.getfield 19, 3) := by decide +kernel
theorem dX8_needPlace_4 : decode cX8_needPlace 4 = .ok (.iload_n 1, 1) := by decide +kernel
theorem dX8_needPlace_5 : decode cX8_needPlace 5 = .ok (.invokevirtual 235, 3) := by decide +kernel
theorem dX8_needPlace_8 : decode cX8_needPlace 8 = .ok (.ifCond .ne 13, 3) := by decide +kernel
theorem dX8_needPlace_11 : decode cX8_needPlace 11 = .ok (.new 218, 3) := by decide +kernel
theorem dX8_needPlace_14 : decode cX8_needPlace 14 = .ok (.dup, 1) := by decide +kernel
theorem dX8_needPlace_15 : decode cX8_needPlace 15 = .ok (.ldc 238, 2) := by decide +kernel
theorem dX8_needPlace_17 : decode cX8_needPlace 17 = .ok (.invokespecial 222, 3) := by decide +kernel
theorem dX8_needPlace_20 : decode cX8_needPlace 20 = .ok (.athrow, 1) := by decide +kernel
theorem dX8_needPlace_21 : decode cX8_needPlace 21 = .ok (.return_, 1) := by decide +kernel
theorem dX8_keep_0 : decode cX8_keep 0 = .ok (.aload_n 0, 1) := by decide +kernel
theorem dX8_keep_1 : decode cX8_keep 1 = .ok (.getfield 230, 3) := by decide +kernel
theorem dX8_keep_4 : decode cX8_keep 4 = .ok (.istore_n 2, 1) := by decide +kernel
theorem dX8_keep_5 : decode cX8_keep 5 = .ok (.iload_n 2, 1) := by decide +kernel
theorem dX8_keep_6 : decode cX8_keep 6 = .ok (.aload_n 0, 1) := by decide +kernel
theorem dX8_keep_7 : decode cX8_keep 7 = .ok (.getfield 46, 3) := by decide +kernel
theorem dX8_keep_10 : decode cX8_keep 10 = .ok (.arraylength, 1) := by decide +kernel
theorem dX8_keep_11 : decode cX8_keep 11 = .ok (.if_icmp .ge 20, 3) := by decide +kernel
theorem dX8_keep_14 : decode cX8_keep 14 = .ok (.aload_n 0, 1) := by decide +kernel
theorem dX8_keep_15 : decode cX8_keep 15 = .ok (.getfield 46, 3) := by decide +kernel
theorem dX8_keep_18 : decode cX8_keep 18 = .ok (.iload_n 2, 1) := by decide +kernel
theorem dX8_keep_19 : decode cX8_keep 19 = .ok (.aload_n 1, 1) := by decide +kernel
theorem dX8_keep_20 : decode cX8_keep 20 = .ok (.aastore, 1) := by decide +kernel
theorem dX8_keep_21 : decode cX8_keep 21 = .ok (.aload_n 0, 1) := by decide +kernel
theorem dX8_keep_22 : decode cX8_keep 22 = .ok (.dup, 1) := by decide +kernel
theorem dX8_keep_23 : decode cX8_keep 23 = .ok (.getfield 230, 3) := by decide +kernel
theorem dX8_keep_26 : decode cX8_keep 26 = .ok (.iconst 1, 1) := by decide +kernel
theorem dX8_keep_27 : decode cX8_keep 27 = .ok (.iadd, 1) := by decide +kernel
theorem dX8_keep_28 : decode cX8_keep 28 = .ok (.putfield 230, 3) := by decide +kernel
theorem dX8_keep_31 : decode cX8_keep 31 = .ok (.iload_n 2, 1) := by decide +kernel
theorem dX8_keep_32 : decode cX8_keep 32 = .ok (.ireturn, 1) := by decide +kernel
theorem dX8_findStandings_0 : decode cX8_findStandings 0 = .ok (.aload_n 0, 1) := by decide +kernel
theorem dX8_findStandings_1 : decode cX8_findStandings 1 = .ok (.getfield 26, 3) := by decide +kernel
theorem dX8_findStandings_4 : decode cX8_findStandings 4 = .ok (.invokevirtual 240, 3) := by decide +kernel
theorem dX8_findStandings_7 : decode cX8_findStandings 7 = .ok (.iconst 0, 1) := by decide +kernel
theorem dX8_findStandings_8 : decode cX8_findStandings 8 = .ok (.istore_n 1, 1) := by decide +kernel
theorem dX8_findStandings_9 : decode cX8_findStandings 9 = .ok (.iload_n 1, 1) := by decide +kernel
theorem dX8_findStandings_10 : decode cX8_findStandings 10 = .ok (.aload_n 0, 1) := by decide +kernel
theorem dX8_findStandings_11 : decode cX8_findStandings 11 = .ok (.getfield 46, 3) := by decide +kernel
theorem dX8_findStandings_14 : decode cX8_findStandings 14 = .ok (.arraylength, 1) := by decide +kernel
theorem dX8_findStandings_15 : decode cX8_findStandings 15 = .ok (.if_icmp .ge 37, 3) := by decide +kernel
theorem dX8_findStandings_18 : decode cX8_findStandings 18 = .ok (.aload_n 0, 1) := by decide +kernel
theorem dX8_findStandings_19 : decode cX8_findStandings 19 = .ok (.getfield 46, 3) := by decide +kernel
theorem dX8_findStandings_22 : decode cX8_findStandings 22 = .ok (.iload_n 1, 1) := by decide +kernel
theorem dX8_findStandings_23 : decode cX8_findStandings 23 = .ok (.aaload, 1) := by decide +kernel
theorem dX8_findStandings_24 : decode cX8_findStandings 24 = .ok (.astore_n 2, 1) := by decide +kernel
theorem dX8_findStandings_25 : decode cX8_findStandings 25 = .ok (.aload_n 2, 1) := by decide +kernel
theorem dX8_findStandings_26 : decode cX8_findStandings 26 = .ok (.ifnull 20, 3) := by decide +kernel
theorem dX8_findStandings_29 : decode cX8_findStandings 29 = .ok (.aload_n 2, 1) := by decide +kernel
theorem dX8_findStandings_30 : decode cX8_findStandings 30 = .ok (.iload_n 1, 1) := by decide +kernel
theorem dX8_findStandings_31 : decode cX8_findStandings 31 = .ok (.aload_n 0, 1) := by decide +kernel
theorem dX8_findStandings_32 : decode cX8_findStandings 32 = .ok (.getfield 12, 3) := by decide +kernel
theorem dX8_findStandings_35 : decode cX8_findStandings 35 = .ok (.aload_n 0, 1) := by decide +kernel
theorem dX8_findStandings_36 : decode cX8_findStandings 36 = .ok (.getfield 19, 3) := by decide +kernel
theorem dX8_findStandings_39 : decode cX8_findStandings 39 = .ok (.aload_n 0, 1) := by decide +kernel
theorem dX8_findStandings_40 : decode cX8_findStandings 40 = .ok (.getfield 26, 3) := by decide +kernel
theorem dX8_findStandings_43 : decode cX8_findStandings 43 = .ok (.invokevirtual 242, 3) := by decide +kernel
theorem dX8_findStandings_46 : decode cX8_findStandings 46 = .ok (.iinc 1 1, 3) := by decide +kernel
theorem dX8_findStandings_49 : decode cX8_findStandings 49 = .ok (.goto (-40), 3) := by decide +kernel
theorem dX8_findStandings_52 : decode cX8_findStandings 52 = .ok (.return_, 1) := by decide +kernel
theorem dX8_chooseCover_0 : decode cX8_chooseCover 0 = .ok (.aload_n 0, 1) := by decide +kernel
theorem dX8_chooseCover_1 : decode cX8_chooseCover 1 = .ok (.invokevirtual 147, 3) := by decide +kernel
theorem dX8_chooseCover_4 : decode cX8_chooseCover 4 = .ok (.aload_n 0, 1) := by decide +kernel
theorem dX8_chooseCover_5 : decode cX8_chooseCover 5 = .ok (.getfield 33, 3) := by decide +kernel
theorem dX8_chooseCover_8 : decode cX8_chooseCover 8 = .ok (.aload_n 0, 1) := by decide +kernel
theorem dX8_chooseCover_9 : decode cX8_chooseCover 9 = .ok (.getfield 26, 3) := by decide +kernel
theorem dX8_chooseCover_12 : decode cX8_chooseCover 12 = .ok (.aload_n 0, 1) := by decide +kernel
theorem dX8_chooseCover_13 : decode cX8_chooseCover 13 = .ok (.getfield 19, 3) := by decide +kernel
theorem dX8_chooseCover_16 : decode cX8_chooseCover 16 = .ok (.getfield 153, 3) := by decide +kernel
theorem dX8_chooseCover_19 : decode cX8_chooseCover 19 = .ok (.aload_n 0, 1) := by decide +kernel
theorem dX8_chooseCover_20 : decode cX8_chooseCover 20 = .ok (.getfield 54, 3) := by decide +kernel
theorem dX8_chooseCover_23 : decode cX8_chooseCover 23 = .ok (.invokevirtual 156, 3) := by decide +kernel
theorem dX8_chooseCover_26 : decode cX8_chooseCover 26 = .ok (.aload_n 0, 1) := by decide +kernel
theorem dX8_chooseCover_27 : decode cX8_chooseCover 27 = .ok (.getfield 33, 3) := by decide +kernel
theorem dX8_chooseCover_30 : decode cX8_chooseCover 30 = .ok (.aload_n 0, 1) := by decide +kernel
theorem dX8_chooseCover_31 : decode cX8_chooseCover 31 = .ok (.getfield 26, 3) := by decide +kernel
theorem dX8_chooseCover_34 : decode cX8_chooseCover 34 = .ok (.invokevirtual 246, 3) := by decide +kernel
theorem dX8_chooseCover_37 : decode cX8_chooseCover 37 = .ok (.return_, 1) := by decide +kernel
theorem dJ6_numberOfTrailingZeros_0f7a4_0 : decode cJ6_numberOfTrailingZeros_0f7a4 0 = .ok (.iload_n 0, 1) := by decide +kernel
theorem dJ6_numberOfTrailingZeros_0f7a4_1 : decode cJ6_numberOfTrailingZeros_0f7a4 1 = .ok (.iconst (-1), 1) := by decide +kernel
theorem dJ6_numberOfTrailingZeros_0f7a4_2 : decode cJ6_numberOfTrailingZeros_0f7a4 2 = .ok (.ixor, 1) := by decide +kernel
theorem dJ6_numberOfTrailingZeros_0f7a4_3 : decode cJ6_numberOfTrailingZeros_0f7a4 3 = .ok (.iload_n 0, 1) := by decide +kernel
theorem dJ6_numberOfTrailingZeros_0f7a4_4 : decode cJ6_numberOfTrailingZeros_0f7a4 4 = .ok (.iconst 1, 1) := by decide +kernel
theorem dJ6_numberOfTrailingZeros_0f7a4_5 : decode cJ6_numberOfTrailingZeros_0f7a4 5 = .ok (.isub, 1) := by decide +kernel
theorem dJ6_numberOfTrailingZeros_0f7a4_6 : decode cJ6_numberOfTrailingZeros_0f7a4 6 = .ok (.iand, 1) := by decide +kernel
theorem dJ6_numberOfTrailingZeros_0f7a4_7 : decode cJ6_numberOfTrailingZeros_0f7a4 7 = .ok (.istore_n 0, 1) := by decide +kernel
theorem dJ6_numberOfTrailingZeros_0f7a4_8 : decode cJ6_numberOfTrailingZeros_0f7a4 8 = .ok (.iload_n 0, 1) := by decide +kernel
theorem dJ6_numberOfTrailingZeros_0f7a4_9 : decode cJ6_numberOfTrailingZeros_0f7a4 9 = .ok (.ifCond .gt 8, 3) := by decide +kernel
theorem dJ6_numberOfTrailingZeros_0f7a4_12 : decode cJ6_numberOfTrailingZeros_0f7a4 12 = .ok (.iload_n 0, 1) := by decide +kernel
theorem dJ6_numberOfTrailingZeros_0f7a4_13 : decode cJ6_numberOfTrailingZeros_0f7a4 13 = .ok (.bipush 32, 2) := by decide +kernel
theorem dJ6_numberOfTrailingZeros_0f7a4_15 : decode cJ6_numberOfTrailingZeros_0f7a4 15 = .ok (.iand, 1) := by decide +kernel
theorem dJ6_numberOfTrailingZeros_0f7a4_16 : decode cJ6_numberOfTrailingZeros_0f7a4 16 = .ok (.ireturn, 1) := by decide +kernel
theorem dJ6_numberOfTrailingZeros_0f7a4_17 : decode cJ6_numberOfTrailingZeros_0f7a4 17 = .ok (.iconst 1, 1) := by decide +kernel
theorem dJ6_numberOfTrailingZeros_0f7a4_18 : decode cJ6_numberOfTrailingZeros_0f7a4 18 = .ok (.istore_n 1, 1) := by decide +kernel
theorem dJ6_numberOfTrailingZeros_0f7a4_19 : decode cJ6_numberOfTrailingZeros_0f7a4 19 = .ok (.iload_n 0, 1) := by decide +kernel
theorem dJ6_numberOfTrailingZeros_0f7a4_20 : decode cJ6_numberOfTrailingZeros_0f7a4 20 = .ok (.ldc_w 264, 3) := by decide +kernel
theorem dJ6_numberOfTrailingZeros_0f7a4_23 : decode cJ6_numberOfTrailingZeros_0f7a4 23 = .ok (.if_icmp .le 11, 3) := by decide +kernel
theorem dJ6_numberOfTrailingZeros_0f7a4_26 : decode cJ6_numberOfTrailingZeros_0f7a4 26 = .ok (.iinc 1 16, 3) := by decide +kernel
theorem dJ6_numberOfTrailingZeros_0f7a4_29 : decode cJ6_numberOfTrailingZeros_0f7a4 29 = .ok (.iload_n 0, 1) := by decide +kernel
theorem dJ6_numberOfTrailingZeros_0f7a4_30 : decode cJ6_numberOfTrailingZeros_0f7a4 30 = .ok (.bipush 16, 2) := by decide +kernel
theorem dJ6_numberOfTrailingZeros_0f7a4_32 : decode cJ6_numberOfTrailingZeros_0f7a4 32 = .ok (.iushr, 1) := by decide +kernel
theorem dJ6_numberOfTrailingZeros_0f7a4_33 : decode cJ6_numberOfTrailingZeros_0f7a4 33 = .ok (.istore_n 0, 1) := by decide +kernel
theorem dJ6_numberOfTrailingZeros_0f7a4_34 : decode cJ6_numberOfTrailingZeros_0f7a4 34 = .ok (.iload_n 0, 1) := by decide +kernel
theorem dJ6_numberOfTrailingZeros_0f7a4_35 : decode cJ6_numberOfTrailingZeros_0f7a4 35 = .ok (.sipush 256, 3) := by decide +kernel
theorem dJ6_numberOfTrailingZeros_0f7a4_38 : decode cJ6_numberOfTrailingZeros_0f7a4 38 = .ok (.if_icmp .le 11, 3) := by decide +kernel
theorem dJ6_numberOfTrailingZeros_0f7a4_41 : decode cJ6_numberOfTrailingZeros_0f7a4 41 = .ok (.iinc 1 8, 3) := by decide +kernel
theorem dJ6_numberOfTrailingZeros_0f7a4_44 : decode cJ6_numberOfTrailingZeros_0f7a4 44 = .ok (.iload_n 0, 1) := by decide +kernel
theorem dJ6_numberOfTrailingZeros_0f7a4_45 : decode cJ6_numberOfTrailingZeros_0f7a4 45 = .ok (.bipush 8, 2) := by decide +kernel
theorem dJ6_numberOfTrailingZeros_0f7a4_47 : decode cJ6_numberOfTrailingZeros_0f7a4 47 = .ok (.iushr, 1) := by decide +kernel
theorem dJ6_numberOfTrailingZeros_0f7a4_48 : decode cJ6_numberOfTrailingZeros_0f7a4 48 = .ok (.istore_n 0, 1) := by decide +kernel
theorem dJ6_numberOfTrailingZeros_0f7a4_49 : decode cJ6_numberOfTrailingZeros_0f7a4 49 = .ok (.iload_n 0, 1) := by decide +kernel
theorem dJ6_numberOfTrailingZeros_0f7a4_50 : decode cJ6_numberOfTrailingZeros_0f7a4 50 = .ok (.bipush 16, 2) := by decide +kernel
theorem dJ6_numberOfTrailingZeros_0f7a4_52 : decode cJ6_numberOfTrailingZeros_0f7a4 52 = .ok (.if_icmp .le 10, 3) := by decide +kernel
theorem dJ6_numberOfTrailingZeros_0f7a4_55 : decode cJ6_numberOfTrailingZeros_0f7a4 55 = .ok (.iinc 1 4, 3) := by decide +kernel
theorem dJ6_numberOfTrailingZeros_0f7a4_58 : decode cJ6_numberOfTrailingZeros_0f7a4 58 = .ok (.iload_n 0, 1) := by decide +kernel
theorem dJ6_numberOfTrailingZeros_0f7a4_59 : decode cJ6_numberOfTrailingZeros_0f7a4 59 = .ok (.iconst 4, 1) := by decide +kernel
theorem dJ6_numberOfTrailingZeros_0f7a4_60 : decode cJ6_numberOfTrailingZeros_0f7a4 60 = .ok (.iushr, 1) := by decide +kernel
theorem dJ6_numberOfTrailingZeros_0f7a4_61 : decode cJ6_numberOfTrailingZeros_0f7a4 61 = .ok (.istore_n 0, 1) := by decide +kernel
theorem dJ6_numberOfTrailingZeros_0f7a4_62 : decode cJ6_numberOfTrailingZeros_0f7a4 62 = .ok (.iload_n 0, 1) := by decide +kernel
theorem dJ6_numberOfTrailingZeros_0f7a4_63 : decode cJ6_numberOfTrailingZeros_0f7a4 63 = .ok (.iconst 4, 1) := by decide +kernel
theorem dJ6_numberOfTrailingZeros_0f7a4_64 : decode cJ6_numberOfTrailingZeros_0f7a4 64 = .ok (.if_icmp .le 10, 3) := by decide +kernel
theorem dJ6_numberOfTrailingZeros_0f7a4_67 : decode cJ6_numberOfTrailingZeros_0f7a4 67 = .ok (.iinc 1 2, 3) := by decide +kernel
theorem dJ6_numberOfTrailingZeros_0f7a4_70 : decode cJ6_numberOfTrailingZeros_0f7a4 70 = .ok (.iload_n 0, 1) := by decide +kernel
theorem dJ6_numberOfTrailingZeros_0f7a4_71 : decode cJ6_numberOfTrailingZeros_0f7a4 71 = .ok (.iconst 2, 1) := by decide +kernel
theorem dJ6_numberOfTrailingZeros_0f7a4_72 : decode cJ6_numberOfTrailingZeros_0f7a4 72 = .ok (.iushr, 1) := by decide +kernel
theorem dJ6_numberOfTrailingZeros_0f7a4_73 : decode cJ6_numberOfTrailingZeros_0f7a4 73 = .ok (.istore_n 0, 1) := by decide +kernel
theorem dJ6_numberOfTrailingZeros_0f7a4_74 : decode cJ6_numberOfTrailingZeros_0f7a4 74 = .ok (.iload_n 1, 1) := by decide +kernel
theorem dJ6_numberOfTrailingZeros_0f7a4_75 : decode cJ6_numberOfTrailingZeros_0f7a4 75 = .ok (.iload_n 0, 1) := by decide +kernel
theorem dJ6_numberOfTrailingZeros_0f7a4_76 : decode cJ6_numberOfTrailingZeros_0f7a4 76 = .ok (.iconst 1, 1) := by decide +kernel
theorem dJ6_numberOfTrailingZeros_0f7a4_77 : decode cJ6_numberOfTrailingZeros_0f7a4 77 = .ok (.iushr, 1) := by decide +kernel
theorem dJ6_numberOfTrailingZeros_0f7a4_78 : decode cJ6_numberOfTrailingZeros_0f7a4 78 = .ok (.iadd, 1) := by decide +kernel
theorem dJ6_numberOfTrailingZeros_0f7a4_79 : decode cJ6_numberOfTrailingZeros_0f7a4 79 = .ok (.ireturn, 1) := by decide +kernel
theorem dJ6_bitCount_0f7a4_0 : decode cJ6_bitCount_0f7a4 0 = .ok (.iload_n 0, 1) := by decide +kernel
theorem dJ6_bitCount_0f7a4_1 : decode cJ6_bitCount_0f7a4 1 = .ok (.iload_n 0, 1) := by decide +kernel
theorem dJ6_bitCount_0f7a4_2 : decode cJ6_bitCount_0f7a4 2 = .ok (.iconst 1, 1) := by decide +kernel
theorem dJ6_bitCount_0f7a4_3 : decode cJ6_bitCount_0f7a4 3 = .ok (.iushr, 1) := by decide +kernel
theorem dJ6_bitCount_0f7a4_4 : decode cJ6_bitCount_0f7a4 4 = .ok (.ldc_w 265, 3) := by decide +kernel
theorem dJ6_bitCount_0f7a4_7 : decode cJ6_bitCount_0f7a4 7 = .ok (.iand, 1) := by decide +kernel
theorem dJ6_bitCount_0f7a4_8 : decode cJ6_bitCount_0f7a4 8 = .ok (.isub, 1) := by decide +kernel
theorem dJ6_bitCount_0f7a4_9 : decode cJ6_bitCount_0f7a4 9 = .ok (.istore_n 0, 1) := by decide +kernel
theorem dJ6_bitCount_0f7a4_10 : decode cJ6_bitCount_0f7a4 10 = .ok (.iload_n 0, 1) := by decide +kernel
theorem dJ6_bitCount_0f7a4_11 : decode cJ6_bitCount_0f7a4 11 = .ok (.ldc_w 266, 3) := by decide +kernel
theorem dJ6_bitCount_0f7a4_14 : decode cJ6_bitCount_0f7a4 14 = .ok (.iand, 1) := by decide +kernel
theorem dJ6_bitCount_0f7a4_15 : decode cJ6_bitCount_0f7a4 15 = .ok (.iload_n 0, 1) := by decide +kernel
theorem dJ6_bitCount_0f7a4_16 : decode cJ6_bitCount_0f7a4 16 = .ok (.iconst 2, 1) := by decide +kernel
theorem dJ6_bitCount_0f7a4_17 : decode cJ6_bitCount_0f7a4 17 = .ok (.iushr, 1) := by decide +kernel
theorem dJ6_bitCount_0f7a4_18 : decode cJ6_bitCount_0f7a4 18 = .ok (.ldc_w 266, 3) := by decide +kernel
theorem dJ6_bitCount_0f7a4_21 : decode cJ6_bitCount_0f7a4 21 = .ok (.iand, 1) := by decide +kernel
theorem dJ6_bitCount_0f7a4_22 : decode cJ6_bitCount_0f7a4 22 = .ok (.iadd, 1) := by decide +kernel
theorem dJ6_bitCount_0f7a4_23 : decode cJ6_bitCount_0f7a4 23 = .ok (.istore_n 0, 1) := by decide +kernel
theorem dJ6_bitCount_0f7a4_24 : decode cJ6_bitCount_0f7a4 24 = .ok (.iload_n 0, 1) := by decide +kernel
theorem dJ6_bitCount_0f7a4_25 : decode cJ6_bitCount_0f7a4 25 = .ok (.iload_n 0, 1) := by decide +kernel
theorem dJ6_bitCount_0f7a4_26 : decode cJ6_bitCount_0f7a4 26 = .ok (.iconst 4, 1) := by decide +kernel
theorem dJ6_bitCount_0f7a4_27 : decode cJ6_bitCount_0f7a4 27 = .ok (.iushr, 1) := by decide +kernel
theorem dJ6_bitCount_0f7a4_28 : decode cJ6_bitCount_0f7a4 28 = .ok (.iadd, 1) := by decide +kernel
theorem dJ6_bitCount_0f7a4_29 : decode cJ6_bitCount_0f7a4 29 = .ok (.ldc_w 267, 3) := by decide +kernel
theorem dJ6_bitCount_0f7a4_32 : decode cJ6_bitCount_0f7a4 32 = .ok (.iand, 1) := by decide +kernel
theorem dJ6_bitCount_0f7a4_33 : decode cJ6_bitCount_0f7a4 33 = .ok (.istore_n 0, 1) := by decide +kernel
theorem dJ6_bitCount_0f7a4_34 : decode cJ6_bitCount_0f7a4 34 = .ok (.iload_n 0, 1) := by decide +kernel
theorem dJ6_bitCount_0f7a4_35 : decode cJ6_bitCount_0f7a4 35 = .ok (.iload_n 0, 1) := by decide +kernel
theorem dJ6_bitCount_0f7a4_36 : decode cJ6_bitCount_0f7a4 36 = .ok (.bipush 8, 2) := by decide +kernel
theorem dJ6_bitCount_0f7a4_38 : decode cJ6_bitCount_0f7a4 38 = .ok (.iushr, 1) := by decide +kernel
theorem dJ6_bitCount_0f7a4_39 : decode cJ6_bitCount_0f7a4 39 = .ok (.iadd, 1) := by decide +kernel
theorem dJ6_bitCount_0f7a4_40 : decode cJ6_bitCount_0f7a4 40 = .ok (.istore_n 0, 1) := by decide +kernel
theorem dJ6_bitCount_0f7a4_41 : decode cJ6_bitCount_0f7a4 41 = .ok (.iload_n 0, 1) := by decide +kernel
theorem dJ6_bitCount_0f7a4_42 : decode cJ6_bitCount_0f7a4 42 = .ok (.iload_n 0, 1) := by decide +kernel
theorem dJ6_bitCount_0f7a4_43 : decode cJ6_bitCount_0f7a4 43 = .ok (.bipush 16, 2) := by decide +kernel
theorem dJ6_bitCount_0f7a4_45 : decode cJ6_bitCount_0f7a4 45 = .ok (.iushr, 1) := by decide +kernel
theorem dJ6_bitCount_0f7a4_46 : decode cJ6_bitCount_0f7a4 46 = .ok (.iadd, 1) := by decide +kernel
theorem dJ6_bitCount_0f7a4_47 : decode cJ6_bitCount_0f7a4 47 = .ok (.istore_n 0, 1) := by decide +kernel
theorem dJ6_bitCount_0f7a4_48 : decode cJ6_bitCount_0f7a4 48 = .ok (.iload_n 0, 1) := by decide +kernel
theorem dJ6_bitCount_0f7a4_49 : decode cJ6_bitCount_0f7a4 49 = .ok (.bipush 63, 2) := by decide +kernel
theorem dJ6_bitCount_0f7a4_51 : decode cJ6_bitCount_0f7a4 51 = .ok (.iand, 1) := by decide +kernel
theorem dJ6_bitCount_0f7a4_52 : decode cJ6_bitCount_0f7a4 52 = .ok (.ireturn, 1) := by decide +kernel
theorem dJ9_min_7cf53_0 : decode cJ9_min_7cf53 0 = .ok (.iload_n 0, 1) := by decide +kernel
theorem dJ9_min_7cf53_1 : decode cJ9_min_7cf53 1 = .ok (.iload_n 1, 1) := by decide +kernel
theorem dJ9_min_7cf53_2 : decode cJ9_min_7cf53 2 = .ok (.if_icmp .gt 7, 3) := by decide +kernel
theorem dJ9_min_7cf53_5 : decode cJ9_min_7cf53 5 = .ok (.iload_n 0, 1) := by decide +kernel
theorem dJ9_min_7cf53_6 : decode cJ9_min_7cf53 6 = .ok (.goto 4, 3) := by decide +kernel
theorem dJ9_min_7cf53_9 : decode cJ9_min_7cf53 9 = .ok (.iload_n 1, 1) := by decide +kernel
theorem dJ9_min_7cf53_10 : decode cJ9_min_7cf53 10 = .ok (.ireturn, 1) := by decide +kernel
theorem dJ7_fill_53178_0 : decode cJ7_fill_53178 0 = .ok (.iconst 0, 1) := by decide +kernel
theorem dJ7_fill_53178_1 : decode cJ7_fill_53178 1 = .ok (.istore_n 2, 1) := by decide +kernel
theorem dJ7_fill_53178_2 : decode cJ7_fill_53178 2 = .ok (.aload_n 0, 1) := by decide +kernel
theorem dJ7_fill_53178_3 : decode cJ7_fill_53178 3 = .ok (.arraylength, 1) := by decide +kernel
theorem dJ7_fill_53178_4 : decode cJ7_fill_53178 4 = .ok (.istore_n 3, 1) := by decide +kernel
theorem dJ7_fill_53178_5 : decode cJ7_fill_53178 5 = .ok (.iload_n 2, 1) := by decide +kernel
theorem dJ7_fill_53178_6 : decode cJ7_fill_53178 6 = .ok (.iload_n 3, 1) := by decide +kernel
theorem dJ7_fill_53178_7 : decode cJ7_fill_53178 7 = .ok (.if_icmp .ge 13, 3) := by decide +kernel
theorem dJ7_fill_53178_10 : decode cJ7_fill_53178 10 = .ok (.aload_n 0, 1) := by decide +kernel
theorem dJ7_fill_53178_11 : decode cJ7_fill_53178 11 = .ok (.iload_n 2, 1) := by decide +kernel
theorem dJ7_fill_53178_12 : decode cJ7_fill_53178 12 = .ok (.iload_n 1, 1) := by decide +kernel
theorem dJ7_fill_53178_13 : decode cJ7_fill_53178 13 = .ok (.iastore, 1) := by decide +kernel
theorem dJ7_fill_53178_14 : decode cJ7_fill_53178 14 = .ok (.iinc 2 1, 3) := by decide +kernel
theorem dJ7_fill_53178_17 : decode cJ7_fill_53178 17 = .ok (.goto (-12), 3) := by decide +kernel
theorem dJ7_fill_53178_20 : decode cJ7_fill_53178 20 = .ok (.return_, 1) := by decide +kernel
theorem dJ7_copyOf_59c91_0 : decode cJ7_copyOf_59c91 0 = .ok (.iload_n 1, 1) := by decide +kernel
theorem dJ7_copyOf_59c91_1 : decode cJ7_copyOf_59c91 1 = .ok (.aload_n 0, 1) := by decide +kernel
theorem dJ7_copyOf_59c91_2 : decode cJ7_copyOf_59c91 2 = .ok (.arraylength, 1) := by decide +kernel
theorem dJ7_copyOf_59c91_3 : decode cJ7_copyOf_59c91 3 = .ok (.if_icmp .ne 11, 3) := by decide +kernel
theorem dJ7_copyOf_59c91_6 : decode cJ7_copyOf_59c91 6 = .ok (.aload_n 0, 1) := by decide +kernel
theorem dJ7_copyOf_59c91_7 : decode cJ7_copyOf_59c91 7 = .ok (.invokevirtual 316, 3) := by decide +kernel
theorem dJ7_copyOf_59c91_10 : decode cJ7_copyOf_59c91 10 = .ok (.checkcast 317, 3) := by decide +kernel
theorem dJ7_copyOf_59c91_13 : decode cJ7_copyOf_59c91 13 = .ok (.areturn, 1) := by decide +kernel
theorem dJ7_copyOf_59c91_14 : decode cJ7_copyOf_59c91 14 = .ok (.iload_n 1, 1) := by decide +kernel
theorem dJ7_copyOf_59c91_15 : decode cJ7_copyOf_59c91 15 = .ok (.newarray .int, 2) := by decide +kernel
theorem dJ7_copyOf_59c91_17 : decode cJ7_copyOf_59c91 17 = .ok (.astore_n 2, 1) := by decide +kernel
theorem dJ7_copyOf_59c91_18 : decode cJ7_copyOf_59c91 18 = .ok (.aload_n 0, 1) := by decide +kernel
theorem dJ7_copyOf_59c91_19 : decode cJ7_copyOf_59c91 19 = .ok (.iconst 0, 1) := by decide +kernel
theorem dJ7_copyOf_59c91_20 : decode cJ7_copyOf_59c91 20 = .ok (.aload_n 2, 1) := by decide +kernel
theorem dJ7_copyOf_59c91_21 : decode cJ7_copyOf_59c91 21 = .ok (.iconst 0, 1) := by decide +kernel
theorem dJ7_copyOf_59c91_22 : decode cJ7_copyOf_59c91 22 = .ok (.aload_n 0, 1) := by decide +kernel
theorem dJ7_copyOf_59c91_23 : decode cJ7_copyOf_59c91 23 = .ok (.arraylength, 1) := by decide +kernel
theorem dJ7_copyOf_59c91_24 : decode cJ7_copyOf_59c91 24 = .ok (.iload_n 1, 1) := by decide +kernel
theorem dJ7_copyOf_59c91_25 : decode cJ7_copyOf_59c91 25 = .ok (.invokestatic 304, 3) := by decide +kernel
theorem dJ7_copyOf_59c91_28 : decode cJ7_copyOf_59c91 28 = .ok (.invokestatic 150, 3) := by decide +kernel
theorem dJ7_copyOf_59c91_31 : decode cJ7_copyOf_59c91 31 = .ok (.aload_n 2, 1) := by decide +kernel
theorem dJ7_copyOf_59c91_32 : decode cJ7_copyOf_59c91 32 = .ok (.areturn, 1) := by decide +kernel
theorem dL_cell_0 : decode cL_cell 0 = .ok (.iload_n 1, 1) := by decide +kernel
theorem dL_cell_1 : decode cL_cell 1 = .ok (.aload_n 0, 1) := by decide +kernel
theorem dL_cell_2 : decode cL_cell 2 = .ok (.arraylength, 1) := by decide +kernel
theorem dL_cell_3 : decode cL_cell 3 = .ok (.if_icmp .ge 9, 3) := by decide +kernel
theorem dL_cell_6 : decode cL_cell 6 = .ok (.aload_n 0, 1) := by decide +kernel
theorem dL_cell_7 : decode cL_cell 7 = .ok (.iload_n 1, 1) := by decide +kernel
theorem dL_cell_8 : decode cL_cell 8 = .ok (.iaload, 1) := by decide +kernel
theorem dL_cell_9 : decode cL_cell 9 = .ok (.goto 15, 3) := by decide +kernel
theorem dL_cell_12 : decode cL_cell 12 = .ok (.sipush 7919, 3) := by decide +kernel
theorem dL_cell_15 : decode cL_cell 15 = .ok (.iload_n 1, 1) := by decide +kernel
theorem dL_cell_16 : decode cL_cell 16 = .ok (.iconst 3, 1) := by decide +kernel
theorem dL_cell_17 : decode cL_cell 17 = .ok (.iadd, 1) := by decide +kernel
theorem dL_cell_18 : decode cL_cell 18 = .ok (.imul, 1) := by decide +kernel
theorem dL_cell_19 : decode cL_cell 19 = .ok (.iload_n 1, 1) := by decide +kernel
theorem dL_cell_20 : decode cL_cell 20 = .ok (.bipush 11, 2) := by decide +kernel
theorem dL_cell_22 : decode cL_cell 22 = .ok (.iadd, 1) := by decide +kernel
theorem dL_cell_23 : decode cL_cell 23 = .ok (.imul, 1) := by decide +kernel
theorem dL_cell_24 : decode cL_cell 24 = .ok (.ireturn, 1) := by decide +kernel
theorem dL_low_0 : decode cL_low 0 = .ok (.iload_n 0, 1) := by decide +kernel
theorem dL_low_1 : decode cL_low 1 = .ok (.ldc 7, 2) := by decide +kernel
theorem dL_low_3 : decode cL_low 3 = .ok (.iand, 1) := by decide +kernel
theorem dL_low_4 : decode cL_low 4 = .ok (.iload_n 1, 1) := by decide +kernel
theorem dL_low_5 : decode cL_low 5 = .ok (.irem, 1) := by decide +kernel
theorem dL_low_6 : decode cL_low 6 = .ok (.ireturn, 1) := by decide +kernel
theorem dL_isCover_0 : decode cL_isCover 0 = .ok (.iconst 0, 1) := by decide +kernel
theorem dL_isCover_1 : decode cL_isCover 1 = .ok (.istore 6, 2) := by decide +kernel
theorem dL_isCover_3 : decode cL_isCover 3 = .ok (.iconst 1, 1) := by decide +kernel
theorem dL_isCover_4 : decode cL_isCover 4 = .ok (.istore 7, 2) := by decide +kernel
theorem dL_isCover_6 : decode cL_isCover 6 = .ok (.iconst 0, 1) := by decide +kernel
theorem dL_isCover_7 : decode cL_isCover 7 = .ok (.istore 8, 2) := by decide +kernel
theorem dL_isCover_9 : decode cL_isCover 9 = .ok (.iload 8, 2) := by decide +kernel
theorem dL_isCover_11 : decode cL_isCover 11 = .ok (.iload 4, 2) := by decide +kernel
theorem dL_isCover_13 : decode cL_isCover 13 = .ok (.if_icmp .ge 195, 3) := by decide +kernel
theorem dL_isCover_16 : decode cL_isCover 16 = .ok (.iload 7, 2) := by decide +kernel
theorem dL_isCover_18 : decode cL_isCover 18 = .ok (.ifCond .eq 190, 3) := by decide +kernel
theorem dL_isCover_21 : decode cL_isCover 21 = .ok (.aload_n 0, 1) := by decide +kernel
theorem dL_isCover_22 : decode cL_isCover 22 = .ok (.iload 8, 2) := by decide +kernel
theorem dL_isCover_24 : decode cL_isCover 24 = .ok (.invokevirtual 8, 3) := by decide +kernel
theorem dL_isCover_27 : decode cL_isCover 27 = .ok (.istore 9, 2) := by decide +kernel
theorem dL_isCover_29 : decode cL_isCover 29 = .ok (.aload_n 0, 1) := by decide +kernel
theorem dL_isCover_30 : decode cL_isCover 30 = .ok (.iload 8, 2) := by decide +kernel
theorem dL_isCover_32 : decode cL_isCover 32 = .ok (.invokevirtual 14, 3) := by decide +kernel
theorem dL_isCover_35 : decode cL_isCover 35 = .ok (.istore 10, 2) := by decide +kernel
theorem dL_isCover_37 : decode cL_isCover 37 = .ok (.iload 9, 2) := by decide +kernel
theorem dL_isCover_39 : decode cL_isCover 39 = .ok (.ifCond .ge 25, 3) := by decide +kernel
theorem dL_isCover_42 : decode cL_isCover 42 = .ok (.iload 6, 2) := by decide +kernel
theorem dL_isCover_44 : decode cL_isCover 44 = .ok (.iload 5, 2) := by decide +kernel
theorem dL_isCover_46 : decode cL_isCover 46 = .ok (.iadd, 1) := by decide +kernel
theorem dL_isCover_47 : decode cL_isCover 47 = .ok (.istore 6, 2) := by decide +kernel
theorem dL_isCover_49 : decode cL_isCover 49 = .ok (.iload 10, 2) := by decide +kernel
theorem dL_isCover_51 : decode cL_isCover 51 = .ok (.ifCond .ne 7, 3) := by decide +kernel
theorem dL_isCover_54 : decode cL_isCover 54 = .ok (.iconst 1, 1) := by decide +kernel
theorem dL_isCover_55 : decode cL_isCover 55 = .ok (.goto 4, 3) := by decide +kernel
theorem dL_isCover_58 : decode cL_isCover 58 = .ok (.iconst 0, 1) := by decide +kernel
theorem dL_isCover_59 : decode cL_isCover 59 = .ok (.istore 7, 2) := by decide +kernel
theorem dL_isCover_61 : decode cL_isCover 61 = .ok (.goto 141, 3) := by decide +kernel
theorem dL_isCover_64 : decode cL_isCover 64 = .ok (.iload 10, 2) := by decide +kernel
theorem dL_isCover_66 : decode cL_isCover 66 = .ok (.iconst 1, 1) := by decide +kernel
theorem dL_isCover_67 : decode cL_isCover 67 = .ok (.iload 8, 2) := by decide +kernel
theorem dL_isCover_69 : decode cL_isCover 69 = .ok (.ishl, 1) := by decide +kernel
theorem dL_isCover_70 : decode cL_isCover 70 = .ok (.iconst 1, 1) := by decide +kernel
theorem dL_isCover_71 : decode cL_isCover 71 = .ok (.isub, 1) := by decide +kernel
theorem dL_isCover_72 : decode cL_isCover 72 = .ok (.iand, 1) := by decide +kernel
theorem dL_isCover_73 : decode cL_isCover 73 = .ok (.ifCond .ne 7, 3) := by decide +kernel
theorem dL_isCover_76 : decode cL_isCover 76 = .ok (.iconst 1, 1) := by decide +kernel
theorem dL_isCover_77 : decode cL_isCover 77 = .ok (.goto 4, 3) := by decide +kernel
theorem dL_isCover_80 : decode cL_isCover 80 = .ok (.iconst 0, 1) := by decide +kernel
theorem dL_isCover_81 : decode cL_isCover 81 = .ok (.istore 11, 2) := by decide +kernel
theorem dL_isCover_83 : decode cL_isCover 83 = .ok (.iload 6, 2) := by decide +kernel
theorem dL_isCover_85 : decode cL_isCover 85 = .ok (.iload 11, 2) := by decide +kernel
theorem dL_isCover_87 : decode cL_isCover 87 = .ok (.ifCond .eq 10, 3) := by decide +kernel
theorem dL_isCover_90 : decode cL_isCover 90 = .ok (.aload_n 2, 1) := by decide +kernel
theorem dL_isCover_91 : decode cL_isCover 91 = .ok (.iload 9, 2) := by decide +kernel
theorem dL_isCover_93 : decode cL_isCover 93 = .ok (.iaload, 1) := by decide +kernel
theorem dL_isCover_94 : decode cL_isCover 94 = .ok (.goto 4, 3) := by decide +kernel
theorem dL_isCover_97 : decode cL_isCover 97 = .ok (.iconst 0, 1) := by decide +kernel
theorem dL_isCover_98 : decode cL_isCover 98 = .ok (.iadd, 1) := by decide +kernel
theorem dL_isCover_99 : decode cL_isCover 99 = .ok (.istore 6, 2) := by decide +kernel
theorem dL_isCover_101 : decode cL_isCover 101 = .ok (.iload 9, 2) := by decide +kernel
theorem dL_isCover_103 : decode cL_isCover 103 = .ok (.iload_n 3, 1) := by decide +kernel
theorem dL_isCover_104 : decode cL_isCover 104 = .ok (.if_icmp .ge 35, 3) := by decide +kernel
theorem dL_isCover_107 : decode cL_isCover 107 = .ok (.aload_n 1, 1) := by decide +kernel
theorem dL_isCover_108 : decode cL_isCover 108 = .ok (.iload 9, 2) := by decide +kernel
theorem dL_isCover_110 : decode cL_isCover 110 = .ok (.iaload, 1) := by decide +kernel
theorem dL_isCover_111 : decode cL_isCover 111 = .ok (.iconst 1, 1) := by decide +kernel
theorem dL_isCover_112 : decode cL_isCover 112 = .ok (.if_icmp .ne 27, 3) := by decide +kernel
theorem dL_isCover_115 : decode cL_isCover 115 = .ok (.iload 10, 2) := by decide +kernel
theorem dL_isCover_117 : decode cL_isCover 117 = .ok (.iload 8, 2) := by decide +kernel
theorem dL_isCover_119 : decode cL_isCover 119 = .ok (.ishr, 1) := by decide +kernel
theorem dL_isCover_120 : decode cL_isCover 120 = .ok (.iconst 1, 1) := by decide +kernel
theorem dL_isCover_121 : decode cL_isCover 121 = .ok (.iand, 1) := by decide +kernel
theorem dL_isCover_122 : decode cL_isCover 122 = .ok (.iconst 1, 1) := by decide +kernel
theorem dL_isCover_123 : decode cL_isCover 123 = .ok (.if_icmp .ne 16, 3) := by decide +kernel
theorem dL_isCover_126 : decode cL_isCover 126 = .ok (.iload 10, 2) := by decide +kernel
theorem dL_isCover_128 : decode cL_isCover 128 = .ok (.iconst 1, 1) := by decide +kernel
theorem dL_isCover_129 : decode cL_isCover 129 = .ok (.iload 4, 2) := by decide +kernel
theorem dL_isCover_131 : decode cL_isCover 131 = .ok (.ishl, 1) := by decide +kernel
theorem dL_isCover_132 : decode cL_isCover 132 = .ok (.if_icmp .ge 7, 3) := by decide +kernel
theorem dL_isCover_135 : decode cL_isCover 135 = .ok (.iconst 1, 1) := by decide +kernel
theorem dL_isCover_136 : decode cL_isCover 136 = .ok (.goto 4, 3) := by decide +kernel
theorem dL_isCover_139 : decode cL_isCover 139 = .ok (.iconst 0, 1) := by decide +kernel
theorem dL_isCover_140 : decode cL_isCover 140 = .ok (.istore 7, 2) := by decide +kernel
theorem dL_isCover_142 : decode cL_isCover 142 = .ok (.iconst 0, 1) := by decide +kernel
theorem dL_isCover_143 : decode cL_isCover 143 = .ok (.istore 12, 2) := by decide +kernel
theorem dL_isCover_145 : decode cL_isCover 145 = .ok (.iload 12, 2) := by decide +kernel
theorem dL_isCover_147 : decode cL_isCover 147 = .ok (.iload 4, 2) := by decide +kernel
theorem dL_isCover_149 : decode cL_isCover 149 = .ok (.if_icmp .ge 53, 3) := by decide +kernel
theorem dL_isCover_152 : decode cL_isCover 152 = .ok (.iload 7, 2) := by decide +kernel
theorem dL_isCover_154 : decode cL_isCover 154 = .ok (.ifCond .eq 48, 3) := by decide +kernel
theorem dL_isCover_157 : decode cL_isCover 157 = .ok (.iload 10, 2) := by decide +kernel
theorem dL_isCover_159 : decode cL_isCover 159 = .ok (.iload 12, 2) := by decide +kernel
theorem dL_isCover_161 : decode cL_isCover 161 = .ok (.ishr, 1) := by decide +kernel
theorem dL_isCover_162 : decode cL_isCover 162 = .ok (.iconst 1, 1) := by decide +kernel
theorem dL_isCover_163 : decode cL_isCover 163 = .ok (.iand, 1) := by decide +kernel
theorem dL_isCover_164 : decode cL_isCover 164 = .ok (.ifCond .eq 25, 3) := by decide +kernel
theorem dL_isCover_167 : decode cL_isCover 167 = .ok (.aload_n 0, 1) := by decide +kernel
theorem dL_isCover_168 : decode cL_isCover 168 = .ok (.iload 12, 2) := by decide +kernel
theorem dL_isCover_170 : decode cL_isCover 170 = .ok (.invokevirtual 14, 3) := by decide +kernel
theorem dL_isCover_173 : decode cL_isCover 173 = .ok (.iload 10, 2) := by decide +kernel
theorem dL_isCover_175 : decode cL_isCover 175 = .ok (.if_icmp .ne 18, 3) := by decide +kernel
theorem dL_isCover_178 : decode cL_isCover 178 = .ok (.aload_n 0, 1) := by decide +kernel
theorem dL_isCover_179 : decode cL_isCover 179 = .ok (.iload 12, 2) := by decide +kernel
theorem dL_isCover_181 : decode cL_isCover 181 = .ok (.invokevirtual 8, 3) := by decide +kernel
theorem dL_isCover_184 : decode cL_isCover 184 = .ok (.iload 9, 2) := by decide +kernel
theorem dL_isCover_186 : decode cL_isCover 186 = .ok (.if_icmp .ne 7, 3) := by decide +kernel
theorem dL_isCover_189 : decode cL_isCover 189 = .ok (.iconst 1, 1) := by decide +kernel
theorem dL_isCover_190 : decode cL_isCover 190 = .ok (.goto 4, 3) := by decide +kernel
theorem dL_isCover_193 : decode cL_isCover 193 = .ok (.iconst 0, 1) := by decide +kernel
theorem dL_isCover_194 : decode cL_isCover 194 = .ok (.istore 7, 2) := by decide +kernel
theorem dL_isCover_196 : decode cL_isCover 196 = .ok (.iinc 12 1, 3) := by decide +kernel
theorem dL_isCover_199 : decode cL_isCover 199 = .ok (.goto (-54), 3) := by decide +kernel
theorem dL_isCover_202 : decode cL_isCover 202 = .ok (.iinc 8 1, 3) := by decide +kernel
theorem dL_isCover_205 : decode cL_isCover 205 = .ok (.goto (-196), 3) := by decide +kernel
theorem dL_isCover_208 : decode cL_isCover 208 = .ok (.iload 7, 2) := by decide +kernel
theorem dL_isCover_210 : decode cL_isCover 210 = .ok (.ifCond .eq 35, 3) := by decide +kernel
theorem dL_isCover_213 : decode cL_isCover 213 = .ok (.aload_n 0, 1) := by decide +kernel
theorem dL_isCover_214 : decode cL_isCover 214 = .ok (.invokevirtual 17, 3) := by decide +kernel
theorem dL_isCover_217 : decode cL_isCover 217 = .ok (.iload 6, 2) := by decide +kernel
theorem dL_isCover_219 : decode cL_isCover 219 = .ok (.if_icmp .ne 26, 3) := by decide +kernel
theorem dL_isCover_222 : decode cL_isCover 222 = .ok (.aload_n 0, 1) := by decide +kernel
theorem dL_isCover_223 : decode cL_isCover 223 = .ok (.invokevirtual 21, 3) := by decide +kernel
theorem dL_isCover_226 : decode cL_isCover 226 = .ok (.iload 6, 2) := by decide +kernel
theorem dL_isCover_228 : decode cL_isCover 228 = .ok (.if_icmp .ne 17, 3) := by decide +kernel
theorem dL_isCover_231 : decode cL_isCover 231 = .ok (.iload 6, 2) := by decide +kernel
theorem dL_isCover_233 : decode cL_isCover 233 = .ok (.iload 5, 2) := by decide +kernel
theorem dL_isCover_235 : decode cL_isCover 235 = .ok (.iload 4, 2) := by decide +kernel
theorem dL_isCover_237 : decode cL_isCover 237 = .ok (.imul, 1) := by decide +kernel
theorem dL_isCover_238 : decode cL_isCover 238 = .ok (.if_icmp .gt 7, 3) := by decide +kernel
theorem dL_isCover_241 : decode cL_isCover 241 = .ok (.iconst 1, 1) := by decide +kernel
theorem dL_isCover_242 : decode cL_isCover 242 = .ok (.goto 4, 3) := by decide +kernel
theorem dL_isCover_245 : decode cL_isCover 245 = .ok (.iconst 0, 1) := by decide +kernel
theorem dL_isCover_246 : decode cL_isCover 246 = .ok (.ireturn, 1) := by decide +kernel
