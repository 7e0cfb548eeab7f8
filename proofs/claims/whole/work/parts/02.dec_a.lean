theorem dX0_init_0 : decode cX0_init 0 = .ok (.aload_n 0, 1) := by decide +kernel
theorem dX0_init_1 : decode cX0_init 1 = .ok (.invokespecial 3, 3) := by decide +kernel
theorem dX0_init_4 : decode cX0_init 4 = .ok (.aload_n 0, 1) := by decide +kernel
theorem dX0_init_5 : decode cX0_init 5 = .ok (.iconst 0, 1) := by decide +kernel
theorem dX0_init_6 : decode cX0_init 6 = .ok (.putfield 9, 3) := by decide +kernel
theorem dX0_init_9 : decode cX0_init 9 = .ok (.aload_n 0, 1) := by decide +kernel
theorem dX0_init_10 : decode cX0_init 10 = .ok (.iconst 0, 1) := by decide +kernel
theorem dX0_init_11 : decode cX0_init 11 = .ok (.putfield 15, 3) := by decide +kernel
theorem dX0_init_14 : decode cX0_init 14 = .ok (.aload_n 0, 1) := by decide +kernel
theorem dX0_init_15 : decode cX0_init 15 = .ok (.iconst 0, 1) := by decide +kernel
theorem dX0_init_16 : decode cX0_init 16 = .ok (.putfield 18, 3) := by decide +kernel
theorem dX0_init_19 : decode cX0_init 19 = .ok (.aload_n 0, 1) := by decide +kernel
theorem dX0_init_20 : decode cX0_init 20 = .ok (.iconst 5, 1) := by decide +kernel
theorem dX0_init_21 : decode cX0_init 21 = .ok (.newarray .int, 2) := by decide +kernel
theorem dX0_init_23 : decode cX0_init 23 = .ok (.putfield 21, 3) := by decide +kernel
theorem dX0_init_26 : decode cX0_init 26 = .ok (.aload_n 0, 1) := by decide +kernel
theorem dX0_init_27 : decode cX0_init 27 = .ok (.iconst 5, 1) := by decide +kernel
theorem dX0_init_28 : decode cX0_init 28 = .ok (.newarray .int, 2) := by decide +kernel
theorem dX0_init_30 : decode cX0_init 30 = .ok (.putfield 25, 3) := by decide +kernel
theorem dX0_init_33 : decode cX0_init 33 = .ok (.aload_n 0, 1) := by decide +kernel
theorem dX0_init_34 : decode cX0_init 34 = .ok (.iconst 5, 1) := by decide +kernel
theorem dX0_init_35 : decode cX0_init 35 = .ok (.newarray .int, 2) := by decide +kernel
theorem dX0_init_37 : decode cX0_init 37 = .ok (.putfield 28, 3) := by decide +kernel
theorem dX0_init_40 : decode cX0_init 40 = .ok (.aload_n 0, 1) := by decide +kernel
theorem dX0_init_41 : decode cX0_init 41 = .ok (.iconst 5, 1) := by decide +kernel
theorem dX0_init_42 : decode cX0_init 42 = .ok (.newarray .int, 2) := by decide +kernel
theorem dX0_init_44 : decode cX0_init 44 = .ok (.putfield 31, 3) := by decide +kernel
theorem dX0_init_47 : decode cX0_init 47 = .ok (.aload_n 0, 1) := by decide +kernel
theorem dX0_init_48 : decode cX0_init 48 = .ok (.bipush 8, 2) := by decide +kernel
theorem dX0_init_50 : decode cX0_init 50 = .ok (.newarray .int, 2) := by decide +kernel
theorem dX0_init_52 : decode cX0_init 52 = .ok (.putfield 34, 3) := by decide +kernel
theorem dX0_init_55 : decode cX0_init 55 = .ok (.aload_n 0, 1) := by decide +kernel
theorem dX0_init_56 : decode cX0_init 56 = .ok (.bipush 8, 2) := by decide +kernel
theorem dX0_init_58 : decode cX0_init 58 = .ok (.newarray .int, 2) := by decide +kernel
theorem dX0_init_60 : decode cX0_init 60 = .ok (.putfield 37, 3) := by decide +kernel
theorem dX0_init_63 : decode cX0_init 63 = .ok (.return_, 1) := by decide +kernel
theorem dX0_kindOf_0 : decode cX0_kindOf 0 = .ok (.iload_n 1, 1) := by decide +kernel
theorem dX0_kindOf_1 : decode cX0_kindOf 1 = .ok (.ifCond .lt 20, 3) := by decide +kernel
theorem dX0_kindOf_4 : decode cX0_kindOf 4 = .ok (.iload_n 1, 1) := by decide +kernel
theorem dX0_kindOf_5 : decode cX0_kindOf 5 = .ok (.aload_n 0, 1) := by decide +kernel
theorem dX0_kindOf_6 : decode cX0_kindOf 6 = .ok (.getfield 18, 3) := by decide +kernel
theorem dX0_kindOf_9 : decode cX0_kindOf 9 = .ok (.if_icmp .ge 12, 3) := by decide +kernel
theorem dX0_kindOf_12 : decode cX0_kindOf 12 = .ok (.aload_n 0, 1) := by decide +kernel
theorem dX0_kindOf_13 : decode cX0_kindOf 13 = .ok (.getfield 34, 3) := by decide +kernel
theorem dX0_kindOf_16 : decode cX0_kindOf 16 = .ok (.iload_n 1, 1) := by decide +kernel
theorem dX0_kindOf_17 : decode cX0_kindOf 17 = .ok (.iaload, 1) := by decide +kernel
theorem dX0_kindOf_18 : decode cX0_kindOf 18 = .ok (.goto 4, 3) := by decide +kernel
theorem dX0_kindOf_21 : decode cX0_kindOf 21 = .ok (.iconst 0, 1) := by decide +kernel
theorem dX0_kindOf_22 : decode cX0_kindOf 22 = .ok (.ireturn, 1) := by decide +kernel
theorem dX0_heavyOf_0 : decode cX0_heavyOf 0 = .ok (.iload_n 1, 1) := by decide +kernel
theorem dX0_heavyOf_1 : decode cX0_heavyOf 1 = .ok (.ifCond .lt 20, 3) := by decide +kernel
theorem dX0_heavyOf_4 : decode cX0_heavyOf 4 = .ok (.iload_n 1, 1) := by decide +kernel
theorem dX0_heavyOf_5 : decode cX0_heavyOf 5 = .ok (.aload_n 0, 1) := by decide +kernel
theorem dX0_heavyOf_6 : decode cX0_heavyOf 6 = .ok (.getfield 18, 3) := by decide +kernel
theorem dX0_heavyOf_9 : decode cX0_heavyOf 9 = .ok (.if_icmp .ge 12, 3) := by decide +kernel
theorem dX0_heavyOf_12 : decode cX0_heavyOf 12 = .ok (.aload_n 0, 1) := by decide +kernel
theorem dX0_heavyOf_13 : decode cX0_heavyOf 13 = .ok (.getfield 37, 3) := by decide +kernel
theorem dX0_heavyOf_16 : decode cX0_heavyOf 16 = .ok (.iload_n 1, 1) := by decide +kernel
theorem dX0_heavyOf_17 : decode cX0_heavyOf 17 = .ok (.iaload, 1) := by decide +kernel
theorem dX0_heavyOf_18 : decode cX0_heavyOf 18 = .ok (.goto 4, 3) := by decide +kernel
theorem dX0_heavyOf_21 : decode cX0_heavyOf 21 = .ok (.iconst 0, 1) := by decide +kernel
theorem dX0_heavyOf_22 : decode cX0_heavyOf 22 = .ok (.ireturn, 1) := by decide +kernel
theorem dX0_isWay_0 : decode cX0_isWay 0 = .ok (.iload_n 1, 1) := by decide +kernel
theorem dX0_isWay_1 : decode cX0_isWay 1 = .ok (.ifCond .lt 11, 3) := by decide +kernel
theorem dX0_isWay_4 : decode cX0_isWay 4 = .ok (.iload_n 1, 1) := by decide +kernel
theorem dX0_isWay_5 : decode cX0_isWay 5 = .ok (.aload_n 0, 1) := by decide +kernel
theorem dX0_isWay_6 : decode cX0_isWay 6 = .ok (.getfield 9, 3) := by decide +kernel
theorem dX0_isWay_9 : decode cX0_isWay 9 = .ok (.if_icmp .lt 20, 3) := by decide +kernel
theorem dX0_isWay_12 : decode cX0_isWay 12 = .ok (.iload_n 1, 1) := by decide +kernel
theorem dX0_isWay_13 : decode cX0_isWay 13 = .ok (.bipush 10, 2) := by decide +kernel
theorem dX0_isWay_15 : decode cX0_isWay 15 = .ok (.if_icmp .lt 18, 3) := by decide +kernel
theorem dX0_isWay_18 : decode cX0_isWay 18 = .ok (.iload_n 1, 1) := by decide +kernel
theorem dX0_isWay_19 : decode cX0_isWay 19 = .ok (.bipush 10, 2) := by decide +kernel
theorem dX0_isWay_21 : decode cX0_isWay 21 = .ok (.aload_n 0, 1) := by decide +kernel
theorem dX0_isWay_22 : decode cX0_isWay 22 = .ok (.getfield 15, 3) := by decide +kernel
theorem dX0_isWay_25 : decode cX0_isWay 25 = .ok (.iadd, 1) := by decide +kernel
theorem dX0_isWay_26 : decode cX0_isWay 26 = .ok (.if_icmp .ge 7, 3) := by decide +kernel
theorem dX0_isWay_29 : decode cX0_isWay 29 = .ok (.iconst 1, 1) := by decide +kernel
theorem dX0_isWay_30 : decode cX0_isWay 30 = .ok (.goto 4, 3) := by decide +kernel
theorem dX0_isWay_33 : decode cX0_isWay 33 = .ok (.iconst 0, 1) := by decide +kernel
theorem dX0_isWay_34 : decode cX0_isWay 34 = .ok (.ireturn, 1) := by decide +kernel
theorem dX0_codes_0 : decode cX0_codes 0 = .ok (.iconst 1, 1) := by decide +kernel
theorem dX0_codes_1 : decode cX0_codes 1 = .ok (.aload_n 0, 1) := by decide +kernel
theorem dX0_codes_2 : decode cX0_codes 2 = .ok (.getfield 15, 3) := by decide +kernel
theorem dX0_codes_5 : decode cX0_codes 5 = .ok (.ishl, 1) := by decide +kernel
theorem dX0_codes_6 : decode cX0_codes 6 = .ok (.istore_n 1, 1) := by decide +kernel
theorem dX0_codes_7 : decode cX0_codes 7 = .ok (.iconst 0, 1) := by decide +kernel
theorem dX0_codes_8 : decode cX0_codes 8 = .ok (.istore_n 2, 1) := by decide +kernel
theorem dX0_codes_9 : decode cX0_codes 9 = .ok (.iload_n 2, 1) := by decide +kernel
theorem dX0_codes_10 : decode cX0_codes 10 = .ok (.aload_n 0, 1) := by decide +kernel
theorem dX0_codes_11 : decode cX0_codes 11 = .ok (.getfield 15, 3) := by decide +kernel
theorem dX0_codes_14 : decode cX0_codes 14 = .ok (.if_icmp .ge 23, 3) := by decide +kernel
theorem dX0_codes_17 : decode cX0_codes 17 = .ok (.aload_n 0, 1) := by decide +kernel
theorem dX0_codes_18 : decode cX0_codes 18 = .ok (.getfield 21, 3) := by decide +kernel
theorem dX0_codes_21 : decode cX0_codes 21 = .ok (.iload_n 2, 1) := by decide +kernel
theorem dX0_codes_22 : decode cX0_codes 22 = .ok (.iaload, 1) := by decide +kernel
theorem dX0_codes_23 : decode cX0_codes 23 = .ok (.iconst 1, 1) := by decide +kernel
theorem dX0_codes_24 : decode cX0_codes 24 = .ok (.if_icmp .ne 7, 3) := by decide +kernel
theorem dX0_codes_27 : decode cX0_codes 27 = .ok (.iload_n 1, 1) := by decide +kernel
theorem dX0_codes_28 : decode cX0_codes 28 = .ok (.iconst 3, 1) := by decide +kernel
theorem dX0_codes_29 : decode cX0_codes 29 = .ok (.imul, 1) := by decide +kernel
theorem dX0_codes_30 : decode cX0_codes 30 = .ok (.istore_n 1, 1) := by decide +kernel
theorem dX0_codes_31 : decode cX0_codes 31 = .ok (.iinc 2 1, 3) := by decide +kernel
theorem dX0_codes_34 : decode cX0_codes 34 = .ok (.goto (-25), 3) := by decide +kernel
theorem dX0_codes_37 : decode cX0_codes 37 = .ok (.iload_n 1, 1) := by decide +kernel
theorem dX0_codes_38 : decode cX0_codes 38 = .ok (.ireturn, 1) := by decide +kernel
theorem dX0_standsIn_0 : decode cX0_standsIn 0 = .ok (.iload_n 1, 1) := by decide +kernel
theorem dX0_standsIn_1 : decode cX0_standsIn 1 = .ok (.iconst 1, 1) := by decide +kernel
theorem dX0_standsIn_2 : decode cX0_standsIn 2 = .ok (.aload_n 0, 1) := by decide +kernel
theorem dX0_standsIn_3 : decode cX0_standsIn 3 = .ok (.getfield 15, 3) := by decide +kernel
theorem dX0_standsIn_6 : decode cX0_standsIn 6 = .ok (.ishl, 1) := by decide +kernel
theorem dX0_standsIn_7 : decode cX0_standsIn 7 = .ok (.iconst 1, 1) := by decide +kernel
theorem dX0_standsIn_8 : decode cX0_standsIn 8 = .ok (.isub, 1) := by decide +kernel
theorem dX0_standsIn_9 : decode cX0_standsIn 9 = .ok (.iand, 1) := by decide +kernel
theorem dX0_standsIn_10 : decode cX0_standsIn 10 = .ok (.ireturn, 1) := by decide +kernel
theorem dX0_mostStandings_0 : decode cX0_mostStandings 0 = .ok (.iconst 0, 1) := by decide +kernel
theorem dX0_mostStandings_1 : decode cX0_mostStandings 1 = .ok (.istore_n 1, 1) := by decide +kernel
theorem dX0_mostStandings_2 : decode cX0_mostStandings 2 = .ok (.iconst 0, 1) := by decide +kernel
theorem dX0_mostStandings_3 : decode cX0_mostStandings 3 = .ok (.istore_n 2, 1) := by decide +kernel
theorem dX0_mostStandings_4 : decode cX0_mostStandings 4 = .ok (.iload_n 2, 1) := by decide +kernel
theorem dX0_mostStandings_5 : decode cX0_mostStandings 5 = .ok (.aload_n 0, 1) := by decide +kernel
theorem dX0_mostStandings_6 : decode cX0_mostStandings 6 = .ok (.getfield 15, 3) := by decide +kernel
theorem dX0_mostStandings_9 : decode cX0_mostStandings 9 = .ok (.if_icmp .ge 22, 3) := by decide +kernel
theorem dX0_mostStandings_12 : decode cX0_mostStandings 12 = .ok (.aload_n 0, 1) := by decide +kernel
theorem dX0_mostStandings_13 : decode cX0_mostStandings 13 = .ok (.getfield 21, 3) := by decide +kernel
theorem dX0_mostStandings_16 : decode cX0_mostStandings 16 = .ok (.iload_n 2, 1) := by decide +kernel
theorem dX0_mostStandings_17 : decode cX0_mostStandings 17 = .ok (.iaload, 1) := by decide +kernel
theorem dX0_mostStandings_18 : decode cX0_mostStandings 18 = .ok (.iconst 2, 1) := by decide +kernel
theorem dX0_mostStandings_19 : decode cX0_mostStandings 19 = .ok (.if_icmp .eq 6, 3) := by decide +kernel
theorem dX0_mostStandings_22 : decode cX0_mostStandings 22 = .ok (.iinc 1 1, 3) := by decide +kernel
theorem dX0_mostStandings_25 : decode cX0_mostStandings 25 = .ok (.iinc 2 1, 3) := by decide +kernel
theorem dX0_mostStandings_28 : decode cX0_mostStandings 28 = .ok (.goto (-24), 3) := by decide +kernel
theorem dX0_mostStandings_31 : decode cX0_mostStandings 31 = .ok (.iconst 1, 1) := by decide +kernel
theorem dX0_mostStandings_32 : decode cX0_mostStandings 32 = .ok (.iload_n 1, 1) := by decide +kernel
theorem dX0_mostStandings_33 : decode cX0_mostStandings 33 = .ok (.ishl, 1) := by decide +kernel
theorem dX0_mostStandings_34 : decode cX0_mostStandings 34 = .ok (.ireturn, 1) := by decide +kernel
theorem dX0_firstOfKinds_0 : decode cX0_firstOfKinds 0 = .ok (.iconst 0, 1) := by decide +kernel
theorem dX0_firstOfKinds_1 : decode cX0_firstOfKinds 1 = .ok (.istore_n 1, 1) := by decide +kernel
theorem dX0_firstOfKinds_2 : decode cX0_firstOfKinds 2 = .ok (.iconst 0, 1) := by decide +kernel
theorem dX0_firstOfKinds_3 : decode cX0_firstOfKinds 3 = .ok (.istore_n 2, 1) := by decide +kernel
theorem dX0_firstOfKinds_4 : decode cX0_firstOfKinds 4 = .ok (.iconst 0, 1) := by decide +kernel
theorem dX0_firstOfKinds_5 : decode cX0_firstOfKinds 5 = .ok (.istore_n 3, 1) := by decide +kernel
theorem dX0_firstOfKinds_6 : decode cX0_firstOfKinds 6 = .ok (.iload_n 3, 1) := by decide +kernel
theorem dX0_firstOfKinds_7 : decode cX0_firstOfKinds 7 = .ok (.aload_n 0, 1) := by decide +kernel
theorem dX0_firstOfKinds_8 : decode cX0_firstOfKinds 8 = .ok (.getfield 18, 3) := by decide +kernel
theorem dX0_firstOfKinds_11 : decode cX0_firstOfKinds 11 = .ok (.if_icmp .ge 37, 3) := by decide +kernel
theorem dX0_firstOfKinds_14 : decode cX0_firstOfKinds 14 = .ok (.iload_n 1, 1) := by decide +kernel
theorem dX0_firstOfKinds_15 : decode cX0_firstOfKinds 15 = .ok (.aload_n 0, 1) := by decide +kernel
theorem dX0_firstOfKinds_16 : decode cX0_firstOfKinds 16 = .ok (.iload_n 3, 1) := by decide +kernel
theorem dX0_firstOfKinds_17 : decode cX0_firstOfKinds 17 = .ok (.invokevirtual 40, 3) := by decide +kernel
theorem dX0_firstOfKinds_20 : decode cX0_firstOfKinds 20 = .ok (.ishr, 1) := by decide +kernel
theorem dX0_firstOfKinds_21 : decode cX0_firstOfKinds 21 = .ok (.iconst 1, 1) := by decide +kernel
theorem dX0_firstOfKinds_22 : decode cX0_firstOfKinds 22 = .ok (.iand, 1) := by decide +kernel
theorem dX0_firstOfKinds_23 : decode cX0_firstOfKinds 23 = .ok (.ifCond .ne 9, 3) := by decide +kernel
theorem dX0_firstOfKinds_26 : decode cX0_firstOfKinds 26 = .ok (.iload_n 2, 1) := by decide +kernel
theorem dX0_firstOfKinds_27 : decode cX0_firstOfKinds 27 = .ok (.iconst 1, 1) := by decide +kernel
theorem dX0_firstOfKinds_28 : decode cX0_firstOfKinds 28 = .ok (.iload_n 3, 1) := by decide +kernel
theorem dX0_firstOfKinds_29 : decode cX0_firstOfKinds 29 = .ok (.ishl, 1) := by decide +kernel
theorem dX0_firstOfKinds_30 : decode cX0_firstOfKinds 30 = .ok (.ior, 1) := by decide +kernel
theorem dX0_firstOfKinds_31 : decode cX0_firstOfKinds 31 = .ok (.istore_n 2, 1) := by decide +kernel
theorem dX0_firstOfKinds_32 : decode cX0_firstOfKinds 32 = .ok (.iload_n 1, 1) := by decide +kernel
theorem dX0_firstOfKinds_33 : decode cX0_firstOfKinds 33 = .ok (.iconst 1, 1) := by decide +kernel
theorem dX0_firstOfKinds_34 : decode cX0_firstOfKinds 34 = .ok (.aload_n 0, 1) := by decide +kernel
theorem dX0_firstOfKinds_35 : decode cX0_firstOfKinds 35 = .ok (.iload_n 3, 1) := by decide +kernel
theorem dX0_firstOfKinds_36 : decode cX0_firstOfKinds 36 = .ok (.invokevirtual 40, 3) := by decide +kernel
theorem dX0_firstOfKinds_39 : decode cX0_firstOfKinds 39 = .ok (.ishl, 1) := by decide +kernel
theorem dX0_firstOfKinds_40 : decode cX0_firstOfKinds 40 = .ok (.ior, 1) := by decide +kernel
theorem dX0_firstOfKinds_41 : decode cX0_firstOfKinds 41 = .ok (.istore_n 1, 1) := by decide +kernel
theorem dX0_firstOfKinds_42 : decode cX0_firstOfKinds 42 = .ok (.iinc 3 1, 3) := by decide +kernel
theorem dX0_firstOfKinds_45 : decode cX0_firstOfKinds 45 = .ok (.goto (-39), 3) := by decide +kernel
theorem dX0_firstOfKinds_48 : decode cX0_firstOfKinds 48 = .ok (.iload_n 2, 1) := by decide +kernel
theorem dX0_firstOfKinds_49 : decode cX0_firstOfKinds 49 = .ok (.ireturn, 1) := by decide +kernel
theorem dX1_init_0 : decode cX1_init 0 = .ok (.aload_n 0, 1) := by decide +kernel
theorem dX1_init_1 : decode cX1_init 1 = .ok (.invokespecial 3, 3) := by decide +kernel
theorem dX1_init_4 : decode cX1_init 4 = .ok (.aload_n 0, 1) := by decide +kernel
theorem dX1_init_5 : decode cX1_init 5 = .ok (.bipush 40, 2) := by decide +kernel
theorem dX1_init_7 : decode cX1_init 7 = .ok (.newarray .int, 2) := by decide +kernel
theorem dX1_init_9 : decode cX1_init 9 = .ok (.putfield 9, 3) := by decide +kernel
theorem dX1_init_12 : decode cX1_init 12 = .ok (.aload_n 0, 1) := by decide +kernel
theorem dX1_init_13 : decode cX1_init 13 = .ok (.iconst 0, 1) := by decide +kernel
theorem dX1_init_14 : decode cX1_init 14 = .ok (.putfield 15, 3) := by decide +kernel
theorem dX1_init_17 : decode cX1_init 17 = .ok (.aload_n 0, 1) := by decide +kernel
theorem dX1_init_18 : decode cX1_init 18 = .ok (.iconst (-1), 1) := by decide +kernel
theorem dX1_init_19 : decode cX1_init 19 = .ok (.putfield 19, 3) := by decide +kernel
theorem dX1_init_22 : decode cX1_init 22 = .ok (.return_, 1) := by decide +kernel
theorem dX1_isMissing_0 : decode cX1_isMissing 0 = .ok (.aload_n 0, 1) := by decide +kernel
theorem dX1_isMissing_1 : decode cX1_isMissing 1 = .ok (.getfield 19, 3) := by decide +kernel
theorem dX1_isMissing_4 : decode cX1_isMissing 4 = .ok (.iconst (-1), 1) := by decide +kernel
theorem dX1_isMissing_5 : decode cX1_isMissing 5 = .ok (.if_icmp .ne 7, 3) := by decide +kernel
theorem dX1_isMissing_8 : decode cX1_isMissing 8 = .ok (.iconst 1, 1) := by decide +kernel
theorem dX1_isMissing_9 : decode cX1_isMissing 9 = .ok (.goto 4, 3) := by decide +kernel
theorem dX1_isMissing_12 : decode cX1_isMissing 12 = .ok (.iconst 0, 1) := by decide +kernel
theorem dX1_isMissing_13 : decode cX1_isMissing 13 = .ok (.ireturn, 1) := by decide +kernel
theorem dX1_has_0 : decode cX1_has 0 = .ok (.iload_n 1, 1) := by decide +kernel
theorem dX1_has_1 : decode cX1_has 1 = .ok (.ifCond .lt 29, 3) := by decide +kernel
theorem dX1_has_4 : decode cX1_has 4 = .ok (.iload_n 2, 1) := by decide +kernel
theorem dX1_has_5 : decode cX1_has 5 = .ok (.ifCond .lt 25, 3) := by decide +kernel
theorem dX1_has_8 : decode cX1_has 8 = .ok (.iload_n 2, 1) := by decide +kernel
theorem dX1_has_9 : decode cX1_has 9 = .ok (.aload_n 0, 1) := by decide +kernel
theorem dX1_has_10 : decode cX1_has 10 = .ok (.getfield 19, 3) := by decide +kernel
theorem dX1_has_13 : decode cX1_has 13 = .ok (.if_icmp .gt 17, 3) := by decide +kernel
theorem dX1_has_16 : decode cX1_has 16 = .ok (.iload_n 1, 1) := by decide +kernel
theorem dX1_has_17 : decode cX1_has 17 = .ok (.aload_n 0, 1) := by decide +kernel
theorem dX1_has_18 : decode cX1_has 18 = .ok (.getfield 19, 3) := by decide +kernel
theorem dX1_has_21 : decode cX1_has 21 = .ok (.iload_n 2, 1) := by decide +kernel
theorem dX1_has_22 : decode cX1_has 22 = .ok (.isub, 1) := by decide +kernel
theorem dX1_has_23 : decode cX1_has 23 = .ok (.if_icmp .gt 7, 3) := by decide +kernel
theorem dX1_has_26 : decode cX1_has 26 = .ok (.iconst 1, 1) := by decide +kernel
theorem dX1_has_27 : decode cX1_has 27 = .ok (.goto 4, 3) := by decide +kernel
theorem dX1_has_30 : decode cX1_has 30 = .ok (.iconst 0, 1) := by decide +kernel
theorem dX1_has_31 : decode cX1_has 31 = .ok (.ireturn, 1) := by decide +kernel
theorem dX1_begin_0 : decode cX1_begin 0 = .ok (.aload_n 0, 1) := by decide +kernel
theorem dX1_begin_1 : decode cX1_begin 1 = .ok (.iload_n 1, 1) := by decide +kernel
theorem dX1_begin_2 : decode cX1_begin 2 = .ok (.putfield 15, 3) := by decide +kernel
theorem dX1_begin_5 : decode cX1_begin 5 = .ok (.aload_n 0, 1) := by decide +kernel
theorem dX1_begin_6 : decode cX1_begin 6 = .ok (.iload_n 2, 1) := by decide +kernel
theorem dX1_begin_7 : decode cX1_begin 7 = .ok (.putfield 19, 3) := by decide +kernel
theorem dX1_begin_10 : decode cX1_begin 10 = .ok (.aload_n 0, 1) := by decide +kernel
theorem dX1_begin_11 : decode cX1_begin 11 = .ok (.getfield 9, 3) := by decide +kernel
theorem dX1_begin_14 : decode cX1_begin 14 = .ok (.iconst 0, 1) := by decide +kernel
theorem dX1_begin_15 : decode cX1_begin 15 = .ok (.invokestatic 22, 3) := by decide +kernel
theorem dX1_begin_18 : decode cX1_begin 18 = .ok (.return_, 1) := by decide +kernel
theorem dX1_lose_0 : decode cX1_lose 0 = .ok (.aload_n 0, 1) := by decide +kernel
theorem dX1_lose_1 : decode cX1_lose 1 = .ok (.iconst (-1), 1) := by decide +kernel
theorem dX1_lose_2 : decode cX1_lose 2 = .ok (.putfield 19, 3) := by decide +kernel
theorem dX1_lose_5 : decode cX1_lose 5 = .ok (.return_, 1) := by decide +kernel
theorem dX1_put_0 : decode cX1_put 0 = .ok (.aload_n 0, 1) := by decide +kernel
theorem dX1_put_1 : decode cX1_put 1 = .ok (.iload_n 1, 1) := by decide +kernel
theorem dX1_put_2 : decode cX1_put 2 = .ok (.iconst 1, 1) := by decide +kernel
theorem dX1_put_3 : decode cX1_put 3 = .ok (.invokevirtual 28, 3) := by decide +kernel
theorem dX1_put_6 : decode cX1_put 6 = .ok (.ifCond .ne 6, 3) := by decide +kernel
theorem dX1_put_9 : decode cX1_put 9 = .ok (.ldc 32, 2) := by decide +kernel
theorem dX1_put_11 : decode cX1_put 11 = .ok (.ireturn, 1) := by decide +kernel
theorem dX1_put_12 : decode cX1_put 12 = .ok (.aload_n 0, 1) := by decide +kernel
theorem dX1_put_13 : decode cX1_put 13 = .ok (.getfield 9, 3) := by decide +kernel
theorem dX1_put_16 : decode cX1_put 16 = .ok (.iload_n 1, 1) := by decide +kernel
theorem dX1_put_17 : decode cX1_put 17 = .ok (.aload_n 0, 1) := by decide +kernel
theorem dX1_put_18 : decode cX1_put 18 = .ok (.getfield 15, 3) := by decide +kernel
theorem dX1_put_21 : decode cX1_put 21 = .ok (.ifCond .ne 8, 3) := by decide +kernel
theorem dX1_put_24 : decode cX1_put 24 = .ok (.iload_n 2, 1) := by decide +kernel
theorem dX1_put_25 : decode cX1_put 25 = .ok (.i2b, 1) := by decide +kernel
theorem dX1_put_26 : decode cX1_put 26 = .ok (.goto 17, 3) := by decide +kernel
theorem dX1_put_29 : decode cX1_put 29 = .ok (.aload_n 0, 1) := by decide +kernel
theorem dX1_put_30 : decode cX1_put 30 = .ok (.getfield 15, 3) := by decide +kernel
theorem dX1_put_33 : decode cX1_put 33 = .ok (.iconst 1, 1) := by decide +kernel
theorem dX1_put_34 : decode cX1_put 34 = .ok (.if_icmp .ne 8, 3) := by decide +kernel
theorem dX1_put_37 : decode cX1_put 37 = .ok (.iload_n 2, 1) := by decide +kernel
theorem dX1_put_38 : decode cX1_put 38 = .ok (.i2s, 1) := by decide +kernel
theorem dX1_put_39 : decode cX1_put 39 = .ok (.goto 4, 3) := by decide +kernel
theorem dX1_put_42 : decode cX1_put 42 = .ok (.iload_n 2, 1) := by decide +kernel
theorem dX1_put_43 : decode cX1_put 43 = .ok (.iastore, 1) := by decide +kernel
theorem dX1_put_44 : decode cX1_put 44 = .ok (.aload_n 0, 1) := by decide +kernel
theorem dX1_put_45 : decode cX1_put 45 = .ok (.getfield 9, 3) := by decide +kernel
theorem dX1_put_48 : decode cX1_put 48 = .ok (.iload_n 1, 1) := by decide +kernel
theorem dX1_put_49 : decode cX1_put 49 = .ok (.iaload, 1) := by decide +kernel
theorem dX1_put_50 : decode cX1_put 50 = .ok (.ireturn, 1) := by decide +kernel
theorem dX1_item_0 : decode cX1_item 0 = .ok (.aload_n 0, 1) := by decide +kernel
theorem dX1_item_1 : decode cX1_item 1 = .ok (.iload_n 1, 1) := by decide +kernel
theorem dX1_item_2 : decode cX1_item 2 = .ok (.iconst 1, 1) := by decide +kernel
theorem dX1_item_3 : decode cX1_item 3 = .ok (.invokevirtual 28, 3) := by decide +kernel
theorem dX1_item_6 : decode cX1_item 6 = .ok (.ifCond .eq 12, 3) := by decide +kernel
theorem dX1_item_9 : decode cX1_item 9 = .ok (.aload_n 0, 1) := by decide +kernel
theorem dX1_item_10 : decode cX1_item 10 = .ok (.getfield 9, 3) := by decide +kernel
theorem dX1_item_13 : decode cX1_item 13 = .ok (.iload_n 1, 1) := by decide +kernel
theorem dX1_item_14 : decode cX1_item 14 = .ok (.iaload, 1) := by decide +kernel
theorem dX1_item_15 : decode cX1_item 15 = .ok (.goto 5, 3) := by decide +kernel
theorem dX1_item_18 : decode cX1_item 18 = .ok (.ldc 32, 2) := by decide +kernel
theorem dX1_item_20 : decode cX1_item 20 = .ok (.ireturn, 1) := by decide +kernel
theorem dX2_init_0 : decode cX2_init 0 = .ok (.aload_n 0, 1) := by decide +kernel
theorem dX2_init_1 : decode cX2_init 1 = .ok (.invokespecial 3, 3) := by decide +kernel
theorem dX2_init_4 : decode cX2_init 4 = .ok (.aload_n 0, 1) := by decide +kernel
theorem dX2_init_5 : decode cX2_init 5 = .ok (.aconst_null, 1) := by decide +kernel
theorem dX2_init_6 : decode cX2_init 6 = .ok (.putfield 9, 3) := by decide +kernel
theorem dX2_init_9 : decode cX2_init 9 = .ok (.aload_n 0, 1) := by decide +kernel
theorem dX2_init_10 : decode cX2_init 10 = .ok (.iconst 0, 1) := by decide +kernel
theorem dX2_init_11 : decode cX2_init 11 = .ok (.putfield 15, 3) := by decide +kernel
theorem dX2_init_14 : decode cX2_init 14 = .ok (.aload_n 0, 1) := by decide +kernel
theorem dX2_init_15 : decode cX2_init 15 = .ok (.iconst 0, 1) := by decide +kernel
theorem dX2_init_16 : decode cX2_init 16 = .ok (.putfield 19, 3) := by decide +kernel
theorem dX2_init_19 : decode cX2_init 19 = .ok (.aload_n 0, 1) := by decide +kernel
theorem dX2_init_20 : decode cX2_init 20 = .ok (.iconst 0, 1) := by decide +kernel
theorem dX2_init_21 : decode cX2_init 21 = .ok (.putfield 22, 3) := by decide +kernel
theorem dX2_init_24 : decode cX2_init 24 = .ok (.aload_n 0, 1) := by decide +kernel
theorem dX2_init_25 : decode cX2_init 25 = .ok (.iconst 0, 1) := by decide +kernel
theorem dX2_init_26 : decode cX2_init 26 = .ok (.putfield 25, 3) := by decide +kernel
theorem dX2_init_29 : decode cX2_init 29 = .ok (.aload_n 0, 1) := by decide +kernel
theorem dX2_init_30 : decode cX2_init 30 = .ok (.iconst 0, 1) := by decide +kernel
theorem dX2_init_31 : decode cX2_init 31 = .ok (.newarray .int, 2) := by decide +kernel
theorem dX2_init_33 : decode cX2_init 33 = .ok (.putfield 28, 3) := by decide +kernel
theorem dX2_init_36 : decode cX2_init 36 = .ok (.aload_n 0, 1) := by decide +kernel
theorem dX2_init_37 : decode cX2_init 37 = .ok (.iconst 0, 1) := by decide +kernel
theorem dX2_init_38 : decode cX2_init 38 = .ok (.newarray .int, 2) := by decide +kernel
theorem dX2_init_40 : decode cX2_init 40 = .ok (.putfield 32, 3) := by decide +kernel
theorem dX2_init_43 : decode cX2_init 43 = .ok (.aload_n 0, 1) := by decide +kernel
theorem dX2_init_44 : decode cX2_init 44 = .ok (.bipush 32, 2) := by decide +kernel
theorem dX2_init_46 : decode cX2_init 46 = .ok (.newarray .int, 2) := by decide +kernel
theorem dX2_init_48 : decode cX2_init 48 = .ok (.putfield 35, 3) := by decide +kernel
theorem dX2_init_51 : decode cX2_init 51 = .ok (.aload_n 0, 1) := by decide +kernel
theorem dX2_init_52 : decode cX2_init 52 = .ok (.new 38, 3) := by decide +kernel
theorem dX2_init_55 : decode cX2_init 55 = .ok (.dup, 1) := by decide +kernel
theorem dX2_init_56 : decode cX2_init 56 = .ok (.aload_n 1, 1) := by decide +kernel
theorem dX2_init_57 : decode cX2_init 57 = .ok (.getfield 40, 3) := by decide +kernel
theorem dX2_init_60 : decode cX2_init 60 = .ok (.invokespecial 41, 3) := by decide +kernel
theorem dX2_init_63 : decode cX2_init 63 = .ok (.putfield 44, 3) := by decide +kernel
theorem dX2_init_66 : decode cX2_init 66 = .ok (.return_, 1) := by decide +kernel
theorem dX2_from_0 : decode cX2_from 0 = .ok (.aload_n 1, 1) := by decide +kernel
theorem dX2_from_1 : decode cX2_from 1 = .ok (.invokevirtual 48, 3) := by decide +kernel
theorem dX2_from_4 : decode cX2_from 4 = .ok (.istore_n 2, 1) := by decide +kernel
theorem dX2_from_5 : decode cX2_from 5 = .ok (.aload_n 0, 1) := by decide +kernel
theorem dX2_from_6 : decode cX2_from 6 = .ok (.getfield 9, 3) := by decide +kernel
theorem dX2_from_9 : decode cX2_from 9 = .ok (.aload_n 1, 1) := by decide +kernel
theorem dX2_from_10 : decode cX2_from 10 = .ok (.getfield 40, 3) := by decide +kernel
theorem dX2_from_13 : decode cX2_from 13 = .ok (.if_acmp .ne 12, 3) := by decide +kernel
theorem dX2_from_16 : decode cX2_from 16 = .ok (.aload_n 0, 1) := by decide +kernel
theorem dX2_from_17 : decode cX2_from 17 = .ok (.getfield 15, 3) := by decide +kernel
theorem dX2_from_20 : decode cX2_from 20 = .ok (.iload_n 2, 1) := by decide +kernel
theorem dX2_from_21 : decode cX2_from 21 = .ok (.if_icmp .ne 4, 3) := by decide +kernel
theorem dX2_from_24 : decode cX2_from 24 = .ok (.return_, 1) := by decide +kernel
theorem dX2_from_25 : decode cX2_from 25 = .ok (.aload_n 0, 1) := by decide +kernel
theorem dX2_from_26 : decode cX2_from 26 = .ok (.aload_n 1, 1) := by decide +kernel
theorem dX2_from_27 : decode cX2_from 27 = .ok (.getfield 40, 3) := by decide +kernel
theorem dX2_from_30 : decode cX2_from 30 = .ok (.putfield 9, 3) := by decide +kernel
theorem dX2_from_33 : decode cX2_from 33 = .ok (.aload_n 0, 1) := by decide +kernel
theorem dX2_from_34 : decode cX2_from 34 = .ok (.iload_n 2, 1) := by decide +kernel
theorem dX2_from_35 : decode cX2_from 35 = .ok (.putfield 15, 3) := by decide +kernel
theorem dX2_from_38 : decode cX2_from 38 = .ok (.aload_n 0, 1) := by decide +kernel
theorem dX2_from_39 : decode cX2_from 39 = .ok (.aload_n 0, 1) := by decide +kernel
theorem dX2_from_40 : decode cX2_from 40 = .ok (.getfield 9, 3) := by decide +kernel
theorem dX2_from_43 : decode cX2_from 43 = .ok (.invokevirtual 52, 3) := by decide +kernel
theorem dX2_from_46 : decode cX2_from 46 = .ok (.putfield 19, 3) := by decide +kernel
theorem dX2_from_49 : decode cX2_from 49 = .ok (.aload_n 0, 1) := by decide +kernel
theorem dX2_from_50 : decode cX2_from 50 = .ok (.iconst 0, 1) := by decide +kernel
theorem dX2_from_51 : decode cX2_from 51 = .ok (.putfield 22, 3) := by decide +kernel
theorem dX2_from_54 : decode cX2_from 54 = .ok (.aload_n 0, 1) := by decide +kernel
theorem dX2_from_55 : decode cX2_from 55 = .ok (.iconst 0, 1) := by decide +kernel
theorem dX2_from_56 : decode cX2_from 56 = .ok (.putfield 25, 3) := by decide +kernel
theorem dX2_from_59 : decode cX2_from 59 = .ok (.aload_n 0, 1) := by decide +kernel
theorem dX2_from_60 : decode cX2_from 60 = .ok (.aload_n 0, 1) := by decide +kernel
theorem dX2_from_61 : decode cX2_from 61 = .ok (.getfield 9, 3) := by decide +kernel
theorem dX2_from_64 : decode cX2_from 64 = .ok (.invokevirtual 57, 3) := by decide +kernel
theorem dX2_from_67 : decode cX2_from 67 = .ok (.invokevirtual 60, 3) := by decide +kernel
theorem dX2_from_70 : decode cX2_from 70 = .ok (.aload_n 0, 1) := by decide +kernel
theorem dX2_from_71 : decode cX2_from 71 = .ok (.getfield 32, 3) := by decide +kernel
theorem dX2_from_74 : decode cX2_from 74 = .ok (.iconst (-1), 1) := by decide +kernel
theorem dX2_from_75 : decode cX2_from 75 = .ok (.invokestatic 64, 3) := by decide +kernel
theorem dX2_from_78 : decode cX2_from 78 = .ok (.aload_n 0, 1) := by decide +kernel
theorem dX2_from_79 : decode cX2_from 79 = .ok (.getfield 35, 3) := by decide +kernel
theorem dX2_from_82 : decode cX2_from 82 = .ok (.iconst (-1), 1) := by decide +kernel
theorem dX2_from_83 : decode cX2_from 83 = .ok (.invokestatic 64, 3) := by decide +kernel
theorem dX2_from_86 : decode cX2_from 86 = .ok (.aload_n 0, 1) := by decide +kernel
theorem dX2_from_87 : decode cX2_from 87 = .ok (.getfield 44, 3) := by decide +kernel
theorem dX2_from_90 : decode cX2_from 90 = .ok (.aload_n 0, 1) := by decide +kernel
theorem dX2_from_91 : decode cX2_from 91 = .ok (.getfield 9, 3) := by decide +kernel
theorem dX2_from_94 : decode cX2_from 94 = .ok (.iconst 0, 1) := by decide +kernel
theorem dX2_from_95 : decode cX2_from 95 = .ok (.invokevirtual 70, 3) := by decide +kernel
theorem dX2_from_98 : decode cX2_from 98 = .ok (.aload_n 0, 1) := by decide +kernel
theorem dX2_from_99 : decode cX2_from 99 = .ok (.iload_n 2, 1) := by decide +kernel
theorem dX2_from_100 : decode cX2_from 100 = .ok (.bipush (-2), 2) := by decide +kernel
theorem dX2_from_102 : decode cX2_from 102 = .ok (.invokevirtual 74, 3) := by decide +kernel
theorem dX2_from_105 : decode cX2_from 105 = .ok (.aload_n 0, 1) := by decide +kernel
theorem dX2_from_106 : decode cX2_from 106 = .ok (.getfield 9, 3) := by decide +kernel
theorem dX2_from_109 : decode cX2_from 109 = .ok (.invokevirtual 78, 3) := by decide +kernel
theorem dX2_from_112 : decode cX2_from 112 = .ok (.istore_n 3, 1) := by decide +kernel
theorem dX2_from_113 : decode cX2_from 113 = .ok (.iconst 0, 1) := by decide +kernel
theorem dX2_from_114 : decode cX2_from 114 = .ok (.istore 4, 2) := by decide +kernel
theorem dX2_from_116 : decode cX2_from 116 = .ok (.iload 4, 2) := by decide +kernel
theorem dX2_from_118 : decode cX2_from 118 = .ok (.aload_n 0, 1) := by decide +kernel
theorem dX2_from_119 : decode cX2_from 119 = .ok (.getfield 22, 3) := by decide +kernel
theorem dX2_from_122 : decode cX2_from 122 = .ok (.if_icmp .ge 38, 3) := by decide +kernel
theorem dX2_from_125 : decode cX2_from 125 = .ok (.iload 4, 2) := by decide +kernel
theorem dX2_from_127 : decode cX2_from 127 = .ok (.aload_n 0, 1) := by decide +kernel
theorem dX2_from_128 : decode cX2_from 128 = .ok (.getfield 28, 3) := by decide +kernel
theorem dX2_from_131 : decode cX2_from 131 = .ok (.arraylength, 1) := by decide +kernel
theorem dX2_from_132 : decode cX2_from 132 = .ok (.if_icmp .ge 28, 3) := by decide +kernel
theorem dX2_from_135 : decode cX2_from 135 = .ok (.aload_n 0, 1) := by decide +kernel
theorem dX2_from_136 : decode cX2_from 136 = .ok (.getfield 25, 3) := by decide +kernel
theorem dX2_from_139 : decode cX2_from 139 = .ok (.iload_n 3, 1) := by decide +kernel
theorem dX2_from_140 : decode cX2_from 140 = .ok (.if_icmp .ge 20, 3) := by decide +kernel
theorem dX2_from_143 : decode cX2_from 143 = .ok (.aload_n 0, 1) := by decide +kernel
theorem dX2_from_144 : decode cX2_from 144 = .ok (.aload_n 0, 1) := by decide +kernel
theorem dX2_from_145 : decode cX2_from 145 = .ok (.getfield 28, 3) := by decide +kernel
theorem dX2_from_148 : decode cX2_from 148 = .ok (.iload 4, 2) := by decide +kernel
theorem dX2_from_150 : decode cX2_from 150 = .ok (.iaload, 1) := by decide +kernel
theorem dX2_from_151 : decode cX2_from 151 = .ok (.invokevirtual 81, 3) := by decide +kernel
theorem dX2_from_154 : decode cX2_from 154 = .ok (.iinc 4 1, 3) := by decide +kernel
theorem dX2_from_157 : decode cX2_from 157 = .ok (.goto (-41), 3) := by decide +kernel
theorem dX2_from_160 : decode cX2_from 160 = .ok (.return_, 1) := by decide +kernel
theorem dX2_makeRoom_0 : decode cX2_makeRoom 0 = .ok (.iload_n 1, 1) := by decide +kernel
theorem dX2_makeRoom_1 : decode cX2_makeRoom 1 = .ok (.aload_n 0, 1) := by decide +kernel
theorem dX2_makeRoom_2 : decode cX2_makeRoom 2 = .ok (.getfield 28, 3) := by decide +kernel
theorem dX2_makeRoom_5 : decode cX2_makeRoom 5 = .ok (.arraylength, 1) := by decide +kernel
theorem dX2_makeRoom_6 : decode cX2_makeRoom 6 = .ok (.if_icmp .le 10, 3) := by decide +kernel
theorem dX2_makeRoom_9 : decode cX2_makeRoom 9 = .ok (.iload_n 1, 1) := by decide +kernel
theorem dX2_makeRoom_10 : decode cX2_makeRoom 10 = .ok (.sipush 7776, 3) := by decide +kernel
theorem dX2_makeRoom_13 : decode cX2_makeRoom 13 = .ok (.if_icmp .le 4, 3) := by decide +kernel
theorem dX2_makeRoom_16 : decode cX2_makeRoom 16 = .ok (.return_, 1) := by decide +kernel
theorem dX2_makeRoom_17 : decode cX2_makeRoom 17 = .ok (.aload_n 0, 1) := by decide +kernel
theorem dX2_makeRoom_18 : decode cX2_makeRoom 18 = .ok (.iload_n 1, 1) := by decide +kernel
theorem dX2_makeRoom_19 : decode cX2_makeRoom 19 = .ok (.newarray .int, 2) := by decide +kernel
theorem dX2_makeRoom_21 : decode cX2_makeRoom 21 = .ok (.putfield 28, 3) := by decide +kernel
theorem dX2_makeRoom_24 : decode cX2_makeRoom 24 = .ok (.aload_n 0, 1) := by decide +kernel
theorem dX2_makeRoom_25 : decode cX2_makeRoom 25 = .ok (.iload_n 1, 1) := by decide +kernel
theorem dX2_makeRoom_26 : decode cX2_makeRoom 26 = .ok (.newarray .int, 2) := by decide +kernel
theorem dX2_makeRoom_28 : decode cX2_makeRoom 28 = .ok (.putfield 32, 3) := by decide +kernel
theorem dX2_makeRoom_31 : decode cX2_makeRoom 31 = .ok (.return_, 1) := by decide +kernel
theorem dX2_spread_0 : decode cX2_spread 0 = .ok (.iconst 0, 1) := by decide +kernel
theorem dX2_spread_1 : decode cX2_spread 1 = .ok (.istore_n 2, 1) := by decide +kernel
theorem dX2_spread_2 : decode cX2_spread 2 = .ok (.iload_n 2, 1) := by decide +kernel
theorem dX2_spread_3 : decode cX2_spread 3 = .ok (.aload_n 0, 1) := by decide +kernel
theorem dX2_spread_4 : decode cX2_spread 4 = .ok (.getfield 9, 3) := by decide +kernel
theorem dX2_spread_7 : decode cX2_spread 7 = .ok (.getfield 84, 3) := by decide +kernel
theorem dX2_spread_10 : decode cX2_spread 10 = .ok (.if_icmp .ge 58, 3) := by decide +kernel
theorem dX2_spread_13 : decode cX2_spread 13 = .ok (.aload_n 0, 1) := by decide +kernel
theorem dX2_spread_14 : decode cX2_spread 14 = .ok (.getfield 19, 3) := by decide +kernel
theorem dX2_spread_17 : decode cX2_spread 17 = .ok (.iload_n 2, 1) := by decide +kernel
theorem dX2_spread_18 : decode cX2_spread 18 = .ok (.ishr, 1) := by decide +kernel
theorem dX2_spread_19 : decode cX2_spread 19 = .ok (.iconst 1, 1) := by decide +kernel
theorem dX2_spread_20 : decode cX2_spread 20 = .ok (.iand, 1) := by decide +kernel
theorem dX2_spread_21 : decode cX2_spread 21 = .ok (.ifCond .ne 6, 3) := by decide +kernel
theorem dX2_spread_24 : decode cX2_spread 24 = .ok (.goto 38, 3) := by decide +kernel
theorem dX2_spread_27 : decode cX2_spread 27 = .ok (.aload_n 0, 1) := by decide +kernel
theorem dX2_spread_28 : decode cX2_spread 28 = .ok (.getfield 44, 3) := by decide +kernel
theorem dX2_spread_31 : decode cX2_spread 31 = .ok (.iload_n 1, 1) := by decide +kernel
theorem dX2_spread_32 : decode cX2_spread 32 = .ok (.invokevirtual 87, 3) := by decide +kernel
theorem dX2_spread_35 : decode cX2_spread 35 = .ok (.aload_n 0, 1) := by decide +kernel
theorem dX2_spread_36 : decode cX2_spread 36 = .ok (.getfield 44, 3) := by decide +kernel
theorem dX2_spread_39 : decode cX2_spread 39 = .ok (.iload_n 2, 1) := by decide +kernel
theorem dX2_spread_40 : decode cX2_spread 40 = .ok (.iconst (-1), 1) := by decide +kernel
theorem dX2_spread_41 : decode cX2_spread 41 = .ok (.invokevirtual 90, 3) := by decide +kernel
theorem dX2_spread_44 : decode cX2_spread 44 = .ok (.pop, 1) := by decide +kernel
theorem dX2_spread_45 : decode cX2_spread 45 = .ok (.aload_n 0, 1) := by decide +kernel
theorem dX2_spread_46 : decode cX2_spread 46 = .ok (.aload_n 0, 1) := by decide +kernel
theorem dX2_spread_47 : decode cX2_spread 47 = .ok (.getfield 44, 3) := by decide +kernel
theorem dX2_spread_50 : decode cX2_spread 50 = .ok (.invokevirtual 48, 3) := by decide +kernel
theorem dX2_spread_53 : decode cX2_spread 53 = .ok (.iload_n 1, 1) := by decide +kernel
theorem dX2_spread_54 : decode cX2_spread 54 = .ok (.bipush 8, 2) := by decide +kernel
theorem dX2_spread_56 : decode cX2_spread 56 = .ok (.imul, 1) := by decide +kernel
theorem dX2_spread_57 : decode cX2_spread 57 = .ok (.iload_n 2, 1) := by decide +kernel
theorem dX2_spread_58 : decode cX2_spread 58 = .ok (.iadd, 1) := by decide +kernel
theorem dX2_spread_59 : decode cX2_spread 59 = .ok (.invokevirtual 74, 3) := by decide +kernel
theorem dX2_spread_62 : decode cX2_spread 62 = .ok (.iinc 2 1, 3) := by decide +kernel
theorem dX2_spread_65 : decode cX2_spread 65 = .ok (.goto (-63), 3) := by decide +kernel
theorem dX2_spread_68 : decode cX2_spread 68 = .ok (.return_, 1) := by decide +kernel
theorem dX2_note_0 : decode cX2_note 0 = .ok (.aload_n 0, 1) := by decide +kernel
theorem dX2_note_1 : decode cX2_note 1 = .ok (.iload_n 1, 1) := by decide +kernel
theorem dX2_note_2 : decode cX2_note 2 = .ok (.invokevirtual 94, 3) := by decide +kernel
theorem dX2_note_5 : decode cX2_note 5 = .ok (.ifCond .eq 25, 3) := by decide +kernel
theorem dX2_note_8 : decode cX2_note 8 = .ok (.aload_n 0, 1) := by decide +kernel
theorem dX2_note_9 : decode cX2_note 9 = .ok (.getfield 22, 3) := by decide +kernel
theorem dX2_note_12 : decode cX2_note 12 = .ok (.aload_n 0, 1) := by decide +kernel
theorem dX2_note_13 : decode cX2_note 13 = .ok (.getfield 28, 3) := by decide +kernel
theorem dX2_note_16 : decode cX2_note 16 = .ok (.arraylength, 1) := by decide +kernel
theorem dX2_note_17 : decode cX2_note 17 = .ok (.if_icmp .ge 13, 3) := by decide +kernel
theorem dX2_note_20 : decode cX2_note 20 = .ok (.aload_n 0, 1) := by decide +kernel
theorem dX2_note_21 : decode cX2_note 21 = .ok (.getfield 32, 3) := by decide +kernel
theorem dX2_note_24 : decode cX2_note 24 = .ok (.iload_n 1, 1) := by decide +kernel
theorem dX2_note_25 : decode cX2_note 25 = .ok (.iaload, 1) := by decide +kernel
theorem dX2_note_26 : decode cX2_note 26 = .ok (.iconst (-1), 1) := by decide +kernel
theorem dX2_note_27 : decode cX2_note 27 = .ok (.if_icmp .eq 4, 3) := by decide +kernel
theorem dX2_note_30 : decode cX2_note 30 = .ok (.return_, 1) := by decide +kernel
theorem dX2_note_31 : decode cX2_note 31 = .ok (.aload_n 0, 1) := by decide +kernel
theorem dX2_note_32 : decode cX2_note 32 = .ok (.getfield 32, 3) := by decide +kernel
theorem dX2_note_35 : decode cX2_note 35 = .ok (.iload_n 1, 1) := by decide +kernel
theorem dX2_note_36 : decode cX2_note 36 = .ok (.iload_n 2, 1) := by decide +kernel
theorem dX2_note_37 : decode cX2_note 37 = .ok (.iastore, 1) := by decide +kernel
theorem dX2_note_38 : decode cX2_note 38 = .ok (.aload_n 0, 1) := by decide +kernel
theorem dX2_note_39 : decode cX2_note 39 = .ok (.getfield 28, 3) := by decide +kernel
theorem dX2_note_42 : decode cX2_note 42 = .ok (.aload_n 0, 1) := by decide +kernel
theorem dX2_note_43 : decode cX2_note 43 = .ok (.getfield 22, 3) := by decide +kernel
theorem dX2_note_46 : decode cX2_note 46 = .ok (.iload_n 1, 1) := by decide +kernel
theorem dX2_note_47 : decode cX2_note 47 = .ok (.iastore, 1) := by decide +kernel
theorem dX2_note_48 : decode cX2_note 48 = .ok (.aload_n 0, 1) := by decide +kernel
theorem dX2_note_49 : decode cX2_note 49 = .ok (.dup, 1) := by decide +kernel
theorem dX2_note_50 : decode cX2_note 50 = .ok (.getfield 22, 3) := by decide +kernel
theorem dX2_note_53 : decode cX2_note 53 = .ok (.iconst 1, 1) := by decide +kernel
theorem dX2_note_54 : decode cX2_note 54 = .ok (.iadd, 1) := by decide +kernel
theorem dX2_note_55 : decode cX2_note 55 = .ok (.putfield 22, 3) := by decide +kernel
theorem dX2_note_58 : decode cX2_note 58 = .ok (.aload_n 0, 1) := by decide +kernel
theorem dX2_note_59 : decode cX2_note 59 = .ok (.getfield 9, 3) := by decide +kernel
theorem dX2_note_62 : decode cX2_note 62 = .ok (.iload_n 1, 1) := by decide +kernel
theorem dX2_note_63 : decode cX2_note 63 = .ok (.invokevirtual 98, 3) := by decide +kernel
theorem dX2_note_66 : decode cX2_note 66 = .ok (.istore_n 3, 1) := by decide +kernel
theorem dX2_note_67 : decode cX2_note 67 = .ok (.aload_n 0, 1) := by decide +kernel
theorem dX2_note_68 : decode cX2_note 68 = .ok (.getfield 35, 3) := by decide +kernel
theorem dX2_note_71 : decode cX2_note 71 = .ok (.iload_n 3, 1) := by decide +kernel
theorem dX2_note_72 : decode cX2_note 72 = .ok (.iaload, 1) := by decide +kernel
theorem dX2_note_73 : decode cX2_note 73 = .ok (.iconst (-1), 1) := by decide +kernel
theorem dX2_note_74 : decode cX2_note 74 = .ok (.if_icmp .ne 20, 3) := by decide +kernel
theorem dX2_note_77 : decode cX2_note 77 = .ok (.aload_n 0, 1) := by decide +kernel
theorem dX2_note_78 : decode cX2_note 78 = .ok (.getfield 35, 3) := by decide +kernel
theorem dX2_note_81 : decode cX2_note 81 = .ok (.iload_n 3, 1) := by decide +kernel
theorem dX2_note_82 : decode cX2_note 82 = .ok (.iload_n 1, 1) := by decide +kernel
theorem dX2_note_83 : decode cX2_note 83 = .ok (.iastore, 1) := by decide +kernel
theorem dX2_note_84 : decode cX2_note 84 = .ok (.aload_n 0, 1) := by decide +kernel
theorem dX2_note_85 : decode cX2_note 85 = .ok (.dup, 1) := by decide +kernel
theorem dX2_note_86 : decode cX2_note 86 = .ok (.getfield 25, 3) := by decide +kernel
theorem dX2_note_89 : decode cX2_note 89 = .ok (.iconst 1, 1) := by decide +kernel
theorem dX2_note_90 : decode cX2_note 90 = .ok (.iadd, 1) := by decide +kernel
theorem dX2_note_91 : decode cX2_note 91 = .ok (.putfield 25, 3) := by decide +kernel
theorem dX2_note_94 : decode cX2_note 94 = .ok (.return_, 1) := by decide +kernel
theorem dX2_isCode_0 : decode cX2_isCode 0 = .ok (.iload_n 1, 1) := by decide +kernel
theorem dX2_isCode_1 : decode cX2_isCode 1 = .ok (.ifCond .lt 16, 3) := by decide +kernel
theorem dX2_isCode_4 : decode cX2_isCode 4 = .ok (.iload_n 1, 1) := by decide +kernel
theorem dX2_isCode_5 : decode cX2_isCode 5 = .ok (.aload_n 0, 1) := by decide +kernel
theorem dX2_isCode_6 : decode cX2_isCode 6 = .ok (.getfield 32, 3) := by decide +kernel
theorem dX2_isCode_9 : decode cX2_isCode 9 = .ok (.arraylength, 1) := by decide +kernel
theorem dX2_isCode_10 : decode cX2_isCode 10 = .ok (.if_icmp .ge 7, 3) := by decide +kernel
theorem dX2_isCode_13 : decode cX2_isCode 13 = .ok (.iconst 1, 1) := by decide +kernel
theorem dX2_isCode_14 : decode cX2_isCode 14 = .ok (.goto 4, 3) := by decide +kernel
theorem dX2_isCode_17 : decode cX2_isCode 17 = .ok (.iconst 0, 1) := by decide +kernel
theorem dX2_isCode_18 : decode cX2_isCode 18 = .ok (.ireturn, 1) := by decide +kernel
theorem dX2_isBehindOther_0 : decode cX2_isBehindOther 0 = .ok (.aload_n 0, 1) := by decide +kernel
theorem dX2_isBehindOther_1 : decode cX2_isBehindOther 1 = .ok (.iload_n 1, 1) := by decide +kernel
theorem dX2_isBehindOther_2 : decode cX2_isBehindOther 2 = .ok (.invokevirtual 94, 3) := by decide +kernel
theorem dX2_isBehindOther_5 : decode cX2_isBehindOther 5 = .ok (.ifCond .eq 16, 3) := by decide +kernel
theorem dX2_isBehindOther_8 : decode cX2_isBehindOther 8 = .ok (.aload_n 0, 1) := by decide +kernel
theorem dX2_isBehindOther_9 : decode cX2_isBehindOther 9 = .ok (.getfield 32, 3) := by decide +kernel
theorem dX2_isBehindOther_12 : decode cX2_isBehindOther 12 = .ok (.iload_n 1, 1) := by decide +kernel
theorem dX2_isBehindOther_13 : decode cX2_isBehindOther 13 = .ok (.iaload, 1) := by decide +kernel
theorem dX2_isBehindOther_14 : decode cX2_isBehindOther 14 = .ok (.ifCond .lt 7, 3) := by decide +kernel
theorem dX2_isBehindOther_17 : decode cX2_isBehindOther 17 = .ok (.iconst 1, 1) := by decide +kernel
theorem dX2_isBehindOther_18 : decode cX2_isBehindOther 18 = .ok (.goto 4, 3) := by decide +kernel
theorem dX2_isBehindOther_21 : decode cX2_isBehindOther 21 = .ok (.iconst 0, 1) := by decide +kernel
theorem dX2_isBehindOther_22 : decode cX2_isBehindOther 22 = .ok (.ireturn, 1) := by decide +kernel
theorem dX2_finds_0 : decode cX2_finds 0 = .ok (.iload_n 1, 1) := by decide +kernel
theorem dX2_finds_1 : decode cX2_finds 1 = .ok (.ifCond .lt 23, 3) := by decide +kernel
theorem dX2_finds_4 : decode cX2_finds 4 = .ok (.iload_n 1, 1) := by decide +kernel
theorem dX2_finds_5 : decode cX2_finds 5 = .ok (.bipush 32, 2) := by decide +kernel
theorem dX2_finds_7 : decode cX2_finds 7 = .ok (.if_icmp .ge 17, 3) := by decide +kernel
theorem dX2_finds_10 : decode cX2_finds 10 = .ok (.aload_n 0, 1) := by decide +kernel
theorem dX2_finds_11 : decode cX2_finds 11 = .ok (.getfield 35, 3) := by decide +kernel
theorem dX2_finds_14 : decode cX2_finds 14 = .ok (.iload_n 1, 1) := by decide +kernel
theorem dX2_finds_15 : decode cX2_finds 15 = .ok (.iaload, 1) := by decide +kernel
theorem dX2_finds_16 : decode cX2_finds 16 = .ok (.iconst (-1), 1) := by decide +kernel
theorem dX2_finds_17 : decode cX2_finds 17 = .ok (.if_icmp .eq 7, 3) := by decide +kernel
theorem dX2_finds_20 : decode cX2_finds 20 = .ok (.iconst 1, 1) := by decide +kernel
theorem dX2_finds_21 : decode cX2_finds 21 = .ok (.goto 4, 3) := by decide +kernel
theorem dX2_finds_24 : decode cX2_finds 24 = .ok (.iconst 0, 1) := by decide +kernel
theorem dX2_finds_25 : decode cX2_finds 25 = .ok (.ireturn, 1) := by decide +kernel
theorem dX2_lengthTo_0 : decode cX2_lengthTo 0 = .ok (.aload_n 0, 1) := by decide +kernel
theorem dX2_lengthTo_1 : decode cX2_lengthTo 1 = .ok (.iload_n 1, 1) := by decide +kernel
theorem dX2_lengthTo_2 : decode cX2_lengthTo 2 = .ok (.invokevirtual 102, 3) := by decide +kernel
theorem dX2_lengthTo_5 : decode cX2_lengthTo 5 = .ok (.ifCond .ne 5, 3) := by decide +kernel
theorem dX2_lengthTo_8 : decode cX2_lengthTo 8 = .ok (.iconst 0, 1) := by decide +kernel
theorem dX2_lengthTo_9 : decode cX2_lengthTo 9 = .ok (.ireturn, 1) := by decide +kernel
theorem dX2_lengthTo_10 : decode cX2_lengthTo 10 = .ok (.iconst 0, 1) := by decide +kernel
theorem dX2_lengthTo_11 : decode cX2_lengthTo 11 = .ok (.istore_n 2, 1) := by decide +kernel
theorem dX2_lengthTo_12 : decode cX2_lengthTo 12 = .ok (.aload_n 0, 1) := by decide +kernel
theorem dX2_lengthTo_13 : decode cX2_lengthTo 13 = .ok (.getfield 35, 3) := by decide +kernel
theorem dX2_lengthTo_16 : decode cX2_lengthTo 16 = .ok (.iload_n 1, 1) := by decide +kernel
theorem dX2_lengthTo_17 : decode cX2_lengthTo 17 = .ok (.iaload, 1) := by decide +kernel
theorem dX2_lengthTo_18 : decode cX2_lengthTo 18 = .ok (.istore_n 3, 1) := by decide +kernel
theorem dX2_lengthTo_19 : decode cX2_lengthTo 19 = .ok (.iload_n 2, 1) := by decide +kernel
theorem dX2_lengthTo_20 : decode cX2_lengthTo 20 = .ok (.sipush 7776, 3) := by decide +kernel
theorem dX2_lengthTo_23 : decode cX2_lengthTo 23 = .ok (.if_icmp .ge 27, 3) := by decide +kernel
theorem dX2_lengthTo_26 : decode cX2_lengthTo 26 = .ok (.aload_n 0, 1) := by decide +kernel
theorem dX2_lengthTo_27 : decode cX2_lengthTo 27 = .ok (.iload_n 3, 1) := by decide +kernel
theorem dX2_lengthTo_28 : decode cX2_lengthTo 28 = .ok (.invokevirtual 105, 3) := by decide +kernel
theorem dX2_lengthTo_31 : decode cX2_lengthTo 31 = .ok (.ifCond .eq 19, 3) := by decide +kernel
theorem dX2_lengthTo_34 : decode cX2_lengthTo 34 = .ok (.aload_n 0, 1) := by decide +kernel
theorem dX2_lengthTo_35 : decode cX2_lengthTo 35 = .ok (.getfield 32, 3) := by decide +kernel
theorem dX2_lengthTo_38 : decode cX2_lengthTo 38 = .ok (.iload_n 3, 1) := by decide +kernel
theorem dX2_lengthTo_39 : decode cX2_lengthTo 39 = .ok (.iaload, 1) := by decide +kernel
theorem dX2_lengthTo_40 : decode cX2_lengthTo 40 = .ok (.bipush 8, 2) := by decide +kernel
theorem dX2_lengthTo_42 : decode cX2_lengthTo 42 = .ok (.idiv, 1) := by decide +kernel
theorem dX2_lengthTo_43 : decode cX2_lengthTo 43 = .ok (.istore_n 3, 1) := by decide +kernel
theorem dX2_lengthTo_44 : decode cX2_lengthTo 44 = .ok (.iinc 2 1, 3) := by decide +kernel
theorem dX2_lengthTo_47 : decode cX2_lengthTo 47 = .ok (.goto (-28), 3) := by decide +kernel
theorem dX2_lengthTo_50 : decode cX2_lengthTo 50 = .ok (.iload_n 2, 1) := by decide +kernel
theorem dX2_lengthTo_51 : decode cX2_lengthTo 51 = .ok (.ireturn, 1) := by decide +kernel
theorem dX2_beastBefore_0 : decode cX2_beastBefore 0 = .ok (.aload_n 0, 1) := by decide +kernel
theorem dX2_beastBefore_1 : decode cX2_beastBefore 1 = .ok (.iload_n 1, 1) := by decide +kernel
theorem dX2_beastBefore_2 : decode cX2_beastBefore 2 = .ok (.invokevirtual 102, 3) := by decide +kernel
theorem dX2_beastBefore_5 : decode cX2_beastBefore 5 = .ok (.ifCond .ne 6, 3) := by decide +kernel
theorem dX2_beastBefore_8 : decode cX2_beastBefore 8 = .ok (.ldc 108, 2) := by decide +kernel
theorem dX2_beastBefore_10 : decode cX2_beastBefore 10 = .ok (.ireturn, 1) := by decide +kernel
theorem dX2_beastBefore_11 : decode cX2_beastBefore 11 = .ok (.aload_n 0, 1) := by decide +kernel
theorem dX2_beastBefore_12 : decode cX2_beastBefore 12 = .ok (.getfield 35, 3) := by decide +kernel
theorem dX2_beastBefore_15 : decode cX2_beastBefore 15 = .ok (.iload_n 1, 1) := by decide +kernel
theorem dX2_beastBefore_16 : decode cX2_beastBefore 16 = .ok (.iaload, 1) := by decide +kernel
theorem dX2_beastBefore_17 : decode cX2_beastBefore 17 = .ok (.istore_n 3, 1) := by decide +kernel
theorem dX2_beastBefore_18 : decode cX2_beastBefore 18 = .ok (.iconst 0, 1) := by decide +kernel
theorem dX2_beastBefore_19 : decode cX2_beastBefore 19 = .ok (.istore 4, 2) := by decide +kernel
theorem dX2_beastBefore_21 : decode cX2_beastBefore 21 = .ok (.iload 4, 2) := by decide +kernel
theorem dX2_beastBefore_23 : decode cX2_beastBefore 23 = .ok (.iload_n 2, 1) := by decide +kernel
theorem dX2_beastBefore_24 : decode cX2_beastBefore 24 = .ok (.if_icmp .ge 27, 3) := by decide +kernel
theorem dX2_beastBefore_27 : decode cX2_beastBefore 27 = .ok (.aload_n 0, 1) := by decide +kernel
theorem dX2_beastBefore_28 : decode cX2_beastBefore 28 = .ok (.iload_n 3, 1) := by decide +kernel
theorem dX2_beastBefore_29 : decode cX2_beastBefore 29 = .ok (.invokevirtual 105, 3) := by decide +kernel
theorem dX2_beastBefore_32 : decode cX2_beastBefore 32 = .ok (.ifCond .eq 19, 3) := by decide +kernel
theorem dX2_beastBefore_35 : decode cX2_beastBefore 35 = .ok (.aload_n 0, 1) := by decide +kernel
theorem dX2_beastBefore_36 : decode cX2_beastBefore 36 = .ok (.getfield 32, 3) := by decide +kernel
theorem dX2_beastBefore_39 : decode cX2_beastBefore 39 = .ok (.iload_n 3, 1) := by decide +kernel
theorem dX2_beastBefore_40 : decode cX2_beastBefore 40 = .ok (.iaload, 1) := by decide +kernel
theorem dX2_beastBefore_41 : decode cX2_beastBefore 41 = .ok (.bipush 8, 2) := by decide +kernel
theorem dX2_beastBefore_43 : decode cX2_beastBefore 43 = .ok (.idiv, 1) := by decide +kernel
theorem dX2_beastBefore_44 : decode cX2_beastBefore 44 = .ok (.istore_n 3, 1) := by decide +kernel
theorem dX2_beastBefore_45 : decode cX2_beastBefore 45 = .ok (.iinc 4 1, 3) := by decide +kernel
theorem dX2_beastBefore_48 : decode cX2_beastBefore 48 = .ok (.goto (-27), 3) := by decide +kernel
theorem dX2_beastBefore_51 : decode cX2_beastBefore 51 = .ok (.aload_n 0, 1) := by decide +kernel
theorem dX2_beastBefore_52 : decode cX2_beastBefore 52 = .ok (.iload_n 3, 1) := by decide +kernel
theorem dX2_beastBefore_53 : decode cX2_beastBefore 53 = .ok (.invokevirtual 105, 3) := by decide +kernel
theorem dX2_beastBefore_56 : decode cX2_beastBefore 56 = .ok (.ifCond .eq 15, 3) := by decide +kernel
theorem dX2_beastBefore_59 : decode cX2_beastBefore 59 = .ok (.aload_n 0, 1) := by decide +kernel
theorem dX2_beastBefore_60 : decode cX2_beastBefore 60 = .ok (.getfield 32, 3) := by decide +kernel
theorem dX2_beastBefore_63 : decode cX2_beastBefore 63 = .ok (.iload_n 3, 1) := by decide +kernel
theorem dX2_beastBefore_64 : decode cX2_beastBefore 64 = .ok (.iaload, 1) := by decide +kernel
theorem dX2_beastBefore_65 : decode cX2_beastBefore 65 = .ok (.bipush 8, 2) := by decide +kernel
theorem dX2_beastBefore_67 : decode cX2_beastBefore 67 = .ok (.irem, 1) := by decide +kernel
theorem dX2_beastBefore_68 : decode cX2_beastBefore 68 = .ok (.goto 5, 3) := by decide +kernel
theorem dX2_beastBefore_71 : decode cX2_beastBefore 71 = .ok (.ldc 108, 2) := by decide +kernel
theorem dX2_beastBefore_73 : decode cX2_beastBefore 73 = .ok (.ireturn, 1) := by decide +kernel
theorem dX3_init_0 : decode cX3_init 0 = .ok (.aload_n 0, 1) := by decide +kernel
theorem dX3_init_1 : decode cX3_init 1 = .ok (.invokespecial 3, 3) := by decide +kernel
theorem dX3_init_4 : decode cX3_init 4 = .ok (.aload_n 0, 1) := by decide +kernel
theorem dX3_init_5 : decode cX3_init 5 = .ok (.iconst 0, 1) := by decide +kernel
theorem dX3_init_6 : decode cX3_init 6 = .ok (.putfield 9, 3) := by decide +kernel
theorem dX3_init_9 : decode cX3_init 9 = .ok (.aload_n 0, 1) := by decide +kernel
theorem dX3_init_10 : decode cX3_init 10 = .ok (.iconst 5, 1) := by decide +kernel
theorem dX3_init_11 : decode cX3_init 11 = .ok (.newarray .int, 2) := by decide +kernel
theorem dX3_init_13 : decode cX3_init 13 = .ok (.putfield 15, 3) := by decide +kernel
theorem dX3_init_16 : decode cX3_init 16 = .ok (.aload_n 0, 1) := by decide +kernel
theorem dX3_init_17 : decode cX3_init 17 = .ok (.bipush 6, 2) := by decide +kernel
theorem dX3_init_19 : decode cX3_init 19 = .ok (.newarray .int, 2) := by decide +kernel
theorem dX3_init_21 : decode cX3_init 21 = .ok (.putfield 19, 3) := by decide +kernel
theorem dX3_init_24 : decode cX3_init 24 = .ok (.aload_n 0, 1) := by decide +kernel
theorem dX3_init_25 : decode cX3_init 25 = .ok (.bipush 6, 2) := by decide +kernel
theorem dX3_init_27 : decode cX3_init 27 = .ok (.newarray .int, 2) := by decide +kernel
theorem dX3_init_29 : decode cX3_init 29 = .ok (.putfield 22, 3) := by decide +kernel
theorem dX3_init_32 : decode cX3_init 32 = .ok (.aload_n 0, 1) := by decide +kernel
theorem dX3_init_33 : decode cX3_init 33 = .ok (.aload_n 1, 1) := by decide +kernel
theorem dX3_init_34 : decode cX3_init 34 = .ok (.putfield 25, 3) := by decide +kernel
theorem dX3_init_37 : decode cX3_init 37 = .ok (.return_, 1) := by decide +kernel
theorem dX3_begin_0 : decode cX3_begin 0 = .ok (.aload_n 0, 1) := by decide +kernel
theorem dX3_begin_1 : decode cX3_begin 1 = .ok (.aload_n 1, 1) := by decide +kernel
theorem dX3_begin_2 : decode cX3_begin 2 = .ok (.putfield 25, 3) := by decide +kernel
theorem dX3_begin_5 : decode cX3_begin 5 = .ok (.aload_n 0, 1) := by decide +kernel
theorem dX3_begin_6 : decode cX3_begin 6 = .ok (.iload_n 2, 1) := by decide +kernel
theorem dX3_begin_7 : decode cX3_begin 7 = .ok (.putfield 9, 3) := by decide +kernel
theorem dX3_begin_10 : decode cX3_begin 10 = .ok (.aload_n 0, 1) := by decide +kernel
theorem dX3_begin_11 : decode cX3_begin 11 = .ok (.getfield 15, 3) := by decide +kernel
theorem dX3_begin_14 : decode cX3_begin 14 = .ok (.iconst 0, 1) := by decide +kernel
theorem dX3_begin_15 : decode cX3_begin 15 = .ok (.invokestatic 29, 3) := by decide +kernel
theorem dX3_begin_18 : decode cX3_begin 18 = .ok (.aload_n 0, 1) := by decide +kernel
theorem dX3_begin_19 : decode cX3_begin 19 = .ok (.getfield 19, 3) := by decide +kernel
theorem dX3_begin_22 : decode cX3_begin 22 = .ok (.iconst 0, 1) := by decide +kernel
theorem dX3_begin_23 : decode cX3_begin 23 = .ok (.invokestatic 29, 3) := by decide +kernel
theorem dX3_begin_26 : decode cX3_begin 26 = .ok (.aload_n 0, 1) := by decide +kernel
theorem dX3_begin_27 : decode cX3_begin 27 = .ok (.getfield 22, 3) := by decide +kernel
theorem dX3_begin_30 : decode cX3_begin 30 = .ok (.iconst 0, 1) := by decide +kernel
theorem dX3_begin_31 : decode cX3_begin 31 = .ok (.invokestatic 29, 3) := by decide +kernel
theorem dX3_begin_34 : decode cX3_begin 34 = .ok (.return_, 1) := by decide +kernel
theorem dX3_takeFrom_0 : decode cX3_takeFrom 0 = .ok (.aload_n 0, 1) := by decide +kernel
theorem dX3_takeFrom_1 : decode cX3_takeFrom 1 = .ok (.aload_n 1, 1) := by decide +kernel
theorem dX3_takeFrom_2 : decode cX3_takeFrom 2 = .ok (.getfield 25, 3) := by decide +kernel
theorem dX3_takeFrom_5 : decode cX3_takeFrom 5 = .ok (.putfield 25, 3) := by decide +kernel
theorem dX3_takeFrom_8 : decode cX3_takeFrom 8 = .ok (.aload_n 0, 1) := by decide +kernel
theorem dX3_takeFrom_9 : decode cX3_takeFrom 9 = .ok (.aload_n 1, 1) := by decide +kernel
theorem dX3_takeFrom_10 : decode cX3_takeFrom 10 = .ok (.getfield 9, 3) := by decide +kernel
theorem dX3_takeFrom_13 : decode cX3_takeFrom 13 = .ok (.putfield 9, 3) := by decide +kernel
theorem dX3_takeFrom_16 : decode cX3_takeFrom 16 = .ok (.aload_n 1, 1) := by decide +kernel
theorem dX3_takeFrom_17 : decode cX3_takeFrom 17 = .ok (.getfield 15, 3) := by decide +kernel
theorem dX3_takeFrom_20 : decode cX3_takeFrom 20 = .ok (.iconst 0, 1) := by decide +kernel
theorem dX3_takeFrom_21 : decode cX3_takeFrom 21 = .ok (.aload_n 0, 1) := by decide +kernel
theorem dX3_takeFrom_22 : decode cX3_takeFrom 22 = .ok (.getfield 15, 3) := by decide +kernel
theorem dX3_takeFrom_25 : decode cX3_takeFrom 25 = .ok (.iconst 0, 1) := by decide +kernel
theorem dX3_takeFrom_26 : decode cX3_takeFrom 26 = .ok (.iconst 5, 1) := by decide +kernel
theorem dX3_takeFrom_27 : decode cX3_takeFrom 27 = .ok (.invokestatic 35, 3) := by decide +kernel
theorem dX3_takeFrom_30 : decode cX3_takeFrom 30 = .ok (.aload_n 1, 1) := by decide +kernel
theorem dX3_takeFrom_31 : decode cX3_takeFrom 31 = .ok (.getfield 19, 3) := by decide +kernel
theorem dX3_takeFrom_34 : decode cX3_takeFrom 34 = .ok (.iconst 0, 1) := by decide +kernel
theorem dX3_takeFrom_35 : decode cX3_takeFrom 35 = .ok (.aload_n 0, 1) := by decide +kernel
theorem dX3_takeFrom_36 : decode cX3_takeFrom 36 = .ok (.getfield 19, 3) := by decide +kernel
theorem dX3_takeFrom_39 : decode cX3_takeFrom 39 = .ok (.iconst 0, 1) := by decide +kernel
theorem dX3_takeFrom_40 : decode cX3_takeFrom 40 = .ok (.bipush 6, 2) := by decide +kernel
theorem dX3_takeFrom_42 : decode cX3_takeFrom 42 = .ok (.invokestatic 35, 3) := by decide +kernel
theorem dX3_takeFrom_45 : decode cX3_takeFrom 45 = .ok (.aload_n 1, 1) := by decide +kernel
theorem dX3_takeFrom_46 : decode cX3_takeFrom 46 = .ok (.getfield 22, 3) := by decide +kernel
theorem dX3_takeFrom_49 : decode cX3_takeFrom 49 = .ok (.iconst 0, 1) := by decide +kernel
theorem dX3_takeFrom_50 : decode cX3_takeFrom 50 = .ok (.aload_n 0, 1) := by decide +kernel
theorem dX3_takeFrom_51 : decode cX3_takeFrom 51 = .ok (.getfield 22, 3) := by decide +kernel
theorem dX3_takeFrom_54 : decode cX3_takeFrom 54 = .ok (.iconst 0, 1) := by decide +kernel
theorem dX3_takeFrom_55 : decode cX3_takeFrom 55 = .ok (.bipush 6, 2) := by decide +kernel
theorem dX3_takeFrom_57 : decode cX3_takeFrom 57 = .ok (.invokestatic 35, 3) := by decide +kernel
theorem dX3_takeFrom_60 : decode cX3_takeFrom 60 = .ok (.return_, 1) := by decide +kernel
theorem dX3_sideOf_0 : decode cX3_sideOf 0 = .ok (.aload_n 0, 1) := by decide +kernel
theorem dX3_sideOf_1 : decode cX3_sideOf 1 = .ok (.getfield 9, 3) := by decide +kernel
theorem dX3_sideOf_4 : decode cX3_sideOf 4 = .ok (.iload_n 1, 1) := by decide +kernel
theorem dX3_sideOf_5 : decode cX3_sideOf 5 = .ok (.ishr, 1) := by decide +kernel
theorem dX3_sideOf_6 : decode cX3_sideOf 6 = .ok (.iconst 1, 1) := by decide +kernel
theorem dX3_sideOf_7 : decode cX3_sideOf 7 = .ok (.iand, 1) := by decide +kernel
theorem dX3_sideOf_8 : decode cX3_sideOf 8 = .ok (.ireturn, 1) := by decide +kernel
theorem dX3_inPens_0 : decode cX3_inPens 0 = .ok (.iconst 0, 1) := by decide +kernel
theorem dX3_inPens_1 : decode cX3_inPens 1 = .ok (.istore_n 1, 1) := by decide +kernel
theorem dX3_inPens_2 : decode cX3_inPens 2 = .ok (.iconst 0, 1) := by decide +kernel
theorem dX3_inPens_3 : decode cX3_inPens 3 = .ok (.istore_n 2, 1) := by decide +kernel
theorem dX3_inPens_4 : decode cX3_inPens 4 = .ok (.iload_n 2, 1) := by decide +kernel
theorem dX3_inPens_5 : decode cX3_inPens 5 = .ok (.bipush 6, 2) := by decide +kernel
theorem dX3_inPens_7 : decode cX3_inPens 7 = .ok (.if_icmp .ge 18, 3) := by decide +kernel
theorem dX3_inPens_10 : decode cX3_inPens 10 = .ok (.iload_n 1, 1) := by decide +kernel
theorem dX3_inPens_11 : decode cX3_inPens 11 = .ok (.aload_n 0, 1) := by decide +kernel
theorem dX3_inPens_12 : decode cX3_inPens 12 = .ok (.getfield 19, 3) := by decide +kernel
theorem dX3_inPens_15 : decode cX3_inPens 15 = .ok (.iload_n 2, 1) := by decide +kernel
theorem dX3_inPens_16 : decode cX3_inPens 16 = .ok (.iaload, 1) := by decide +kernel
theorem dX3_inPens_17 : decode cX3_inPens 17 = .ok (.iadd, 1) := by decide +kernel
theorem dX3_inPens_18 : decode cX3_inPens 18 = .ok (.istore_n 1, 1) := by decide +kernel
theorem dX3_inPens_19 : decode cX3_inPens 19 = .ok (.iinc 2 1, 3) := by decide +kernel
theorem dX3_inPens_22 : decode cX3_inPens 22 = .ok (.goto (-18), 3) := by decide +kernel
theorem dX3_inPens_25 : decode cX3_inPens 25 = .ok (.iload_n 1, 1) := by decide +kernel
theorem dX3_inPens_26 : decode cX3_inPens 26 = .ok (.ireturn, 1) := by decide +kernel
theorem dX3_adm_0 : decode cX3_adm 0 = .ok (.iload_n 1, 1) := by decide +kernel
theorem dX3_adm_1 : decode cX3_adm 1 = .ok (.ifCond .lt 9, 3) := by decide +kernel
theorem dX3_adm_4 : decode cX3_adm 4 = .ok (.iload_n 1, 1) := by decide +kernel
theorem dX3_adm_5 : decode cX3_adm 5 = .ok (.bipush 6, 2) := by decide +kernel
theorem dX3_adm_7 : decode cX3_adm 7 = .ok (.if_icmp .lt 4, 3) := by decide +kernel
theorem dX3_adm_10 : decode cX3_adm 10 = .ok (.return_, 1) := by decide +kernel
theorem dX3_adm_11 : decode cX3_adm 11 = .ok (.aload_n 0, 1) := by decide +kernel
theorem dX3_adm_12 : decode cX3_adm 12 = .ok (.getfield 19, 3) := by decide +kernel
theorem dX3_adm_15 : decode cX3_adm 15 = .ok (.iload_n 1, 1) := by decide +kernel
theorem dX3_adm_16 : decode cX3_adm 16 = .ok (.dup2, 1) := by decide +kernel
theorem dX3_adm_17 : decode cX3_adm 17 = .ok (.iaload, 1) := by decide +kernel
theorem dX3_adm_18 : decode cX3_adm 18 = .ok (.iconst 1, 1) := by decide +kernel
theorem dX3_adm_19 : decode cX3_adm 19 = .ok (.iadd, 1) := by decide +kernel
theorem dX3_adm_20 : decode cX3_adm 20 = .ok (.iastore, 1) := by decide +kernel
theorem dX3_adm_21 : decode cX3_adm 21 = .ok (.aload_n 0, 1) := by decide +kernel
theorem dX3_adm_22 : decode cX3_adm 22 = .ok (.getfield 22, 3) := by decide +kernel
theorem dX3_adm_25 : decode cX3_adm 25 = .ok (.iload_n 1, 1) := by decide +kernel
theorem dX3_adm_26 : decode cX3_adm 26 = .ok (.dup2, 1) := by decide +kernel
theorem dX3_adm_27 : decode cX3_adm 27 = .ok (.iaload, 1) := by decide +kernel
theorem dX3_adm_28 : decode cX3_adm 28 = .ok (.iload_n 2, 1) := by decide +kernel
theorem dX3_adm_29 : decode cX3_adm 29 = .ok (.iadd, 1) := by decide +kernel
theorem dX3_adm_30 : decode cX3_adm 30 = .ok (.iastore, 1) := by decide +kernel
theorem dX3_adm_31 : decode cX3_adm 31 = .ok (.return_, 1) := by decide +kernel
theorem dX3_send_0 : decode cX3_send 0 = .ok (.aload_n 0, 1) := by decide +kernel
theorem dX3_send_1 : decode cX3_send 1 = .ok (.getfield 25, 3) := by decide +kernel
theorem dX3_send_4 : decode cX3_send 4 = .ok (.iload_n 1, 1) := by decide +kernel
theorem dX3_send_5 : decode cX3_send 5 = .ok (.invokevirtual 41, 3) := by decide +kernel
theorem dX3_send_8 : decode cX3_send 8 = .ok (.istore_n 3, 1) := by decide +kernel
theorem dX3_send_9 : decode cX3_send 9 = .ok (.aload_n 0, 1) := by decide +kernel
theorem dX3_send_10 : decode cX3_send 10 = .ok (.getfield 25, 3) := by decide +kernel
theorem dX3_send_13 : decode cX3_send 13 = .ok (.getfield 47, 3) := by decide +kernel
theorem dX3_send_16 : decode cX3_send 16 = .ok (.iconst 1, 1) := by decide +kernel
theorem dX3_send_17 : decode cX3_send 17 = .ok (.isub, 1) := by decide +kernel
theorem dX3_send_18 : decode cX3_send 18 = .ok (.istore 4, 2) := by decide +kernel
theorem dX3_send_20 : decode cX3_send 20 = .ok (.iconst 0, 1) := by decide +kernel
theorem dX3_send_21 : decode cX3_send 21 = .ok (.istore 5, 2) := by decide +kernel
theorem dX3_send_23 : decode cX3_send 23 = .ok (.iload 5, 2) := by decide +kernel
theorem dX3_send_25 : decode cX3_send 25 = .ok (.iconst 5, 1) := by decide +kernel
theorem dX3_send_26 : decode cX3_send 26 = .ok (.if_icmp .ge 73, 3) := by decide +kernel
theorem dX3_send_29 : decode cX3_send 29 = .ok (.iload 4, 2) := by decide +kernel
theorem dX3_send_31 : decode cX3_send 31 = .ok (.ifCond .lt 68, 3) := by decide +kernel
theorem dX3_send_34 : decode cX3_send 34 = .ok (.iload 4, 2) := by decide +kernel
theorem dX3_send_36 : decode cX3_send 36 = .ok (.iconst 5, 1) := by decide +kernel
theorem dX3_send_37 : decode cX3_send 37 = .ok (.if_icmp .ge 62, 3) := by decide +kernel
theorem dX3_send_40 : decode cX3_send 40 = .ok (.aload_n 0, 1) := by decide +kernel
theorem dX3_send_41 : decode cX3_send 41 = .ok (.iload 4, 2) := by decide +kernel
theorem dX3_send_43 : decode cX3_send 43 = .ok (.iload_n 3, 1) := by decide +kernel
theorem dX3_send_44 : decode cX3_send 44 = .ok (.iload_n 2, 1) := by decide +kernel
theorem dX3_send_45 : decode cX3_send 45 = .ok (.invokevirtual 50, 3) := by decide +kernel
theorem dX3_send_48 : decode cX3_send 48 = .ok (.ifCond .ne 16, 3) := by decide +kernel
theorem dX3_send_51 : decode cX3_send 51 = .ok (.aload_n 0, 1) := by decide +kernel
theorem dX3_send_52 : decode cX3_send 52 = .ok (.getfield 25, 3) := by decide +kernel
theorem dX3_send_55 : decode cX3_send 55 = .ok (.getfield 54, 3) := by decide +kernel
theorem dX3_send_58 : decode cX3_send 58 = .ok (.iload 4, 2) := by decide +kernel
theorem dX3_send_60 : decode cX3_send 60 = .ok (.iaload, 1) := by decide +kernel
theorem dX3_send_61 : decode cX3_send 61 = .ok (.goto 13, 3) := by decide +kernel
theorem dX3_send_64 : decode cX3_send 64 = .ok (.aload_n 0, 1) := by decide +kernel
theorem dX3_send_65 : decode cX3_send 65 = .ok (.getfield 25, 3) := by decide +kernel
theorem dX3_send_68 : decode cX3_send 68 = .ok (.getfield 57, 3) := by decide +kernel
theorem dX3_send_71 : decode cX3_send 71 = .ok (.iload 4, 2) := by decide +kernel
theorem dX3_send_73 : decode cX3_send 73 = .ok (.iaload, 1) := by decide +kernel
theorem dX3_send_74 : decode cX3_send 74 = .ok (.istore 6, 2) := by decide +kernel
theorem dX3_send_76 : decode cX3_send 76 = .ok (.iload 6, 2) := by decide +kernel
theorem dX3_send_78 : decode cX3_send 78 = .ok (.bipush 10, 2) := by decide +kernel
theorem dX3_send_80 : decode cX3_send 80 = .ok (.if_icmp .ge 6, 3) := by decide +kernel
theorem dX3_send_83 : decode cX3_send 83 = .ok (.iload 6, 2) := by decide +kernel
theorem dX3_send_85 : decode cX3_send 85 = .ok (.ireturn, 1) := by decide +kernel
theorem dX3_send_86 : decode cX3_send 86 = .ok (.iload 6, 2) := by decide +kernel
theorem dX3_send_88 : decode cX3_send 88 = .ok (.bipush 10, 2) := by decide +kernel
theorem dX3_send_90 : decode cX3_send 90 = .ok (.isub, 1) := by decide +kernel
theorem dX3_send_91 : decode cX3_send 91 = .ok (.istore 4, 2) := by decide +kernel
theorem dX3_send_93 : decode cX3_send 93 = .ok (.iinc 5 1, 3) := by decide +kernel
theorem dX3_send_96 : decode cX3_send 96 = .ok (.goto (-73), 3) := by decide +kernel
theorem dX3_send_99 : decode cX3_send 99 = .ok (.ldc 60, 2) := by decide +kernel
theorem dX3_send_101 : decode cX3_send 101 = .ok (.ireturn, 1) := by decide +kernel
theorem dX3_pass_0 : decode cX3_pass 0 = .ok (.aload_n 0, 1) := by decide +kernel
theorem dX3_pass_1 : decode cX3_pass 1 = .ok (.iload_n 1, 1) := by decide +kernel
theorem dX3_pass_2 : decode cX3_pass 2 = .ok (.invokevirtual 61, 3) := by decide +kernel
theorem dX3_pass_5 : decode cX3_pass 5 = .ok (.istore 4, 2) := by decide +kernel
theorem dX3_pass_7 : decode cX3_pass 7 = .ok (.iload_n 2, 1) := by decide +kernel
theorem dX3_pass_8 : decode cX3_pass 8 = .ok (.iconst 1, 1) := by decide +kernel
theorem dX3_pass_9 : decode cX3_pass 9 = .ok (.if_icmp .ne 13, 3) := by decide +kernel
theorem dX3_pass_12 : decode cX3_pass 12 = .ok (.aload_n 0, 1) := by decide +kernel
theorem dX3_pass_13 : decode cX3_pass 13 = .ok (.getfield 15, 3) := by decide +kernel
theorem dX3_pass_16 : decode cX3_pass 16 = .ok (.iload_n 1, 1) := by decide +kernel
theorem dX3_pass_17 : decode cX3_pass 17 = .ok (.dup2, 1) := by decide +kernel
theorem dX3_pass_18 : decode cX3_pass 18 = .ok (.iaload, 1) := by decide +kernel
theorem dX3_pass_19 : decode cX3_pass 19 = .ok (.iconst 1, 1) := by decide +kernel
theorem dX3_pass_20 : decode cX3_pass 20 = .ok (.iadd, 1) := by decide +kernel
theorem dX3_pass_21 : decode cX3_pass 21 = .ok (.iastore, 1) := by decide +kernel
theorem dX3_pass_22 : decode cX3_pass 22 = .ok (.aload_n 0, 1) := by decide +kernel
theorem dX3_pass_23 : decode cX3_pass 23 = .ok (.iload_n 1, 1) := by decide +kernel
theorem dX3_pass_24 : decode cX3_pass 24 = .ok (.iload_n 3, 1) := by decide +kernel
theorem dX3_pass_25 : decode cX3_pass 25 = .ok (.invokevirtual 64, 3) := by decide +kernel
theorem dX3_pass_28 : decode cX3_pass 28 = .ok (.ifCond .eq 6, 3) := by decide +kernel
theorem dX3_pass_31 : decode cX3_pass 31 = .ok (.iload 4, 2) := by decide +kernel
theorem dX3_pass_33 : decode cX3_pass 33 = .ok (.ireturn, 1) := by decide +kernel
theorem dX3_pass_34 : decode cX3_pass 34 = .ok (.iload_n 2, 1) := by decide +kernel
theorem dX3_pass_35 : decode cX3_pass 35 = .ok (.iload 4, 2) := by decide +kernel
theorem dX3_pass_37 : decode cX3_pass 37 = .ok (.invokestatic 68, 3) := by decide +kernel
theorem dX3_pass_40 : decode cX3_pass 40 = .ok (.istore 5, 2) := by decide +kernel
theorem dX3_pass_42 : decode cX3_pass 42 = .ok (.aload_n 0, 1) := by decide +kernel
theorem dX3_pass_43 : decode cX3_pass 43 = .ok (.iload_n 1, 1) := by decide +kernel
theorem dX3_pass_44 : decode cX3_pass 44 = .ok (.iload_n 2, 1) := by decide +kernel
theorem dX3_pass_45 : decode cX3_pass 45 = .ok (.iload 5, 2) := by decide +kernel
theorem dX3_pass_47 : decode cX3_pass 47 = .ok (.invokevirtual 72, 3) := by decide +kernel
theorem dX3_pass_50 : decode cX3_pass 50 = .ok (.iload 4, 2) := by decide +kernel
theorem dX3_pass_52 : decode cX3_pass 52 = .ok (.if_icmp .eq 56, 3) := by decide +kernel
theorem dX3_pass_55 : decode cX3_pass 55 = .ok (.aload_n 0, 1) := by decide +kernel
theorem dX3_pass_56 : decode cX3_pass 56 = .ok (.dup, 1) := by decide +kernel
theorem dX3_pass_57 : decode cX3_pass 57 = .ok (.getfield 9, 3) := by decide +kernel
theorem dX3_pass_60 : decode cX3_pass 60 = .ok (.iconst 1, 1) := by decide +kernel
theorem dX3_pass_61 : decode cX3_pass 61 = .ok (.iload_n 1, 1) := by decide +kernel
theorem dX3_pass_62 : decode cX3_pass 62 = .ok (.ishl, 1) := by decide +kernel
theorem dX3_pass_63 : decode cX3_pass 63 = .ok (.ixor, 1) := by decide +kernel
theorem dX3_pass_64 : decode cX3_pass 64 = .ok (.putfield 9, 3) := by decide +kernel
theorem dX3_pass_67 : decode cX3_pass 67 = .ok (.aload_n 0, 1) := by decide +kernel
theorem dX3_pass_68 : decode cX3_pass 68 = .ok (.getfield 25, 3) := by decide +kernel
theorem dX3_pass_71 : decode cX3_pass 71 = .ok (.getfield 75, 3) := by decide +kernel
theorem dX3_pass_74 : decode cX3_pass 74 = .ok (.iload_n 1, 1) := by decide +kernel
theorem dX3_pass_75 : decode cX3_pass 75 = .ok (.iaload, 1) := by decide +kernel
theorem dX3_pass_76 : decode cX3_pass 76 = .ok (.iconst 1, 1) := by decide +kernel
theorem dX3_pass_77 : decode cX3_pass 77 = .ok (.isub, 1) := by decide +kernel
theorem dX3_pass_78 : decode cX3_pass 78 = .ok (.istore 6, 2) := by decide +kernel
theorem dX3_pass_80 : decode cX3_pass 80 = .ok (.iload 6, 2) := by decide +kernel
theorem dX3_pass_82 : decode cX3_pass 82 = .ok (.ifCond .lt 26, 3) := by decide +kernel
theorem dX3_pass_85 : decode cX3_pass 85 = .ok (.aload_n 0, 1) := by decide +kernel
theorem dX3_pass_86 : decode cX3_pass 86 = .ok (.iload 6, 2) := by decide +kernel
theorem dX3_pass_88 : decode cX3_pass 88 = .ok (.iload_n 3, 1) := by decide +kernel
theorem dX3_pass_89 : decode cX3_pass 89 = .ok (.invokevirtual 64, 3) := by decide +kernel
theorem dX3_pass_92 : decode cX3_pass 92 = .ok (.ifCond .ne 16, 3) := by decide +kernel
theorem dX3_pass_95 : decode cX3_pass 95 = .ok (.aload_n 0, 1) := by decide +kernel
theorem dX3_pass_96 : decode cX3_pass 96 = .ok (.dup, 1) := by decide +kernel
theorem dX3_pass_97 : decode cX3_pass 97 = .ok (.getfield 9, 3) := by decide +kernel
theorem dX3_pass_100 : decode cX3_pass 100 = .ok (.iconst 1, 1) := by decide +kernel
theorem dX3_pass_101 : decode cX3_pass 101 = .ok (.iload 6, 2) := by decide +kernel
theorem dX3_pass_103 : decode cX3_pass 103 = .ok (.ishl, 1) := by decide +kernel
theorem dX3_pass_104 : decode cX3_pass 104 = .ok (.ixor, 1) := by decide +kernel
theorem dX3_pass_105 : decode cX3_pass 105 = .ok (.putfield 9, 3) := by decide +kernel
theorem dX3_pass_108 : decode cX3_pass 108 = .ok (.iload 5, 2) := by decide +kernel
theorem dX3_pass_110 : decode cX3_pass 110 = .ok (.ireturn, 1) := by decide +kernel
theorem dX3_isFixed_0 : decode cX3_isFixed 0 = .ok (.iload_n 1, 1) := by decide +kernel
theorem dX3_isFixed_1 : decode cX3_isFixed 1 = .ok (.iload_n 2, 1) := by decide +kernel
theorem dX3_isFixed_2 : decode cX3_isFixed 2 = .ok (.if_icmp .eq 21, 3) := by decide +kernel
theorem dX3_isFixed_5 : decode cX3_isFixed 5 = .ok (.iload_n 1, 1) := by decide +kernel
theorem dX3_isFixed_6 : decode cX3_isFixed 6 = .ok (.iconst 5, 1) := by decide +kernel
theorem dX3_isFixed_7 : decode cX3_isFixed 7 = .ok (.if_icmp .ge 16, 3) := by decide +kernel
theorem dX3_isFixed_10 : decode cX3_isFixed 10 = .ok (.aload_n 0, 1) := by decide +kernel
theorem dX3_isFixed_11 : decode cX3_isFixed 11 = .ok (.getfield 25, 3) := by decide +kernel
theorem dX3_isFixed_14 : decode cX3_isFixed 14 = .ok (.getfield 78, 3) := by decide +kernel
theorem dX3_isFixed_17 : decode cX3_isFixed 17 = .ok (.iload_n 1, 1) := by decide +kernel
theorem dX3_isFixed_18 : decode cX3_isFixed 18 = .ok (.iaload, 1) := by decide +kernel
theorem dX3_isFixed_19 : decode cX3_isFixed 19 = .ok (.iconst 2, 1) := by decide +kernel
theorem dX3_isFixed_20 : decode cX3_isFixed 20 = .ok (.if_icmp .ne 7, 3) := by decide +kernel
theorem dX3_isFixed_23 : decode cX3_isFixed 23 = .ok (.iconst 1, 1) := by decide +kernel
theorem dX3_isFixed_24 : decode cX3_isFixed 24 = .ok (.goto 4, 3) := by decide +kernel
theorem dX3_isFixed_27 : decode cX3_isFixed 27 = .ok (.iconst 0, 1) := by decide +kernel
theorem dX3_isFixed_28 : decode cX3_isFixed 28 = .ok (.ireturn, 1) := by decide +kernel
theorem dX3_sideTaken_0 : decode cX3_sideTaken 0 = .ok (.iload_n 0, 1) := by decide +kernel
theorem dX3_sideTaken_1 : decode cX3_sideTaken 1 = .ok (.tableswitch 39 2 5 #[31, 39, 35, 37], 31) := by decide +kernel
theorem dX3_sideTaken_32 : decode cX3_sideTaken 32 = .ok (.iconst 1, 1) := by decide +kernel
theorem dX3_sideTaken_33 : decode cX3_sideTaken 33 = .ok (.iload_n 1, 1) := by decide +kernel
theorem dX3_sideTaken_34 : decode cX3_sideTaken 34 = .ok (.isub, 1) := by decide +kernel
theorem dX3_sideTaken_35 : decode cX3_sideTaken 35 = .ok (.ireturn, 1) := by decide +kernel
theorem dX3_sideTaken_36 : decode cX3_sideTaken 36 = .ok (.iconst 0, 1) := by decide +kernel
theorem dX3_sideTaken_37 : decode cX3_sideTaken 37 = .ok (.ireturn, 1) := by decide +kernel
theorem dX3_sideTaken_38 : decode cX3_sideTaken 38 = .ok (.iconst 1, 1) := by decide +kernel
theorem dX3_sideTaken_39 : decode cX3_sideTaken 39 = .ok (.ireturn, 1) := by decide +kernel
theorem dX3_sideTaken_40 : decode cX3_sideTaken 40 = .ok (.iload_n 1, 1) := by decide +kernel
theorem dX3_sideTaken_41 : decode cX3_sideTaken 41 = .ok (.ireturn, 1) := by decide +kernel
theorem dX3_sideLeftBehind_0 : decode cX3_sideLeftBehind 0 = .ok (.iload_n 2, 1) := by decide +kernel
theorem dX3_sideLeftBehind_1 : decode cX3_sideLeftBehind 1 = .ok (.iconst 1, 1) := by decide +kernel
theorem dX3_sideLeftBehind_2 : decode cX3_sideLeftBehind 2 = .ok (.if_icmp .eq 5, 3) := by decide +kernel
theorem dX3_sideLeftBehind_5 : decode cX3_sideLeftBehind 5 = .ok (.iload_n 3, 1) := by decide +kernel
theorem dX3_sideLeftBehind_6 : decode cX3_sideLeftBehind 6 = .ok (.ireturn, 1) := by decide +kernel
theorem dX3_sideLeftBehind_7 : decode cX3_sideLeftBehind 7 = .ok (.aload_n 0, 1) := by decide +kernel
theorem dX3_sideLeftBehind_8 : decode cX3_sideLeftBehind 8 = .ok (.getfield 25, 3) := by decide +kernel
theorem dX3_sideLeftBehind_11 : decode cX3_sideLeftBehind 11 = .ok (.getfield 78, 3) := by decide +kernel
theorem dX3_sideLeftBehind_14 : decode cX3_sideLeftBehind 14 = .ok (.iload_n 1, 1) := by decide +kernel
theorem dX3_sideLeftBehind_15 : decode cX3_sideLeftBehind 15 = .ok (.iaload, 1) := by decide +kernel
theorem dX3_sideLeftBehind_16 : decode cX3_sideLeftBehind 16 = .ok (.ifCond .eq 14, 3) := by decide +kernel
theorem dX3_sideLeftBehind_19 : decode cX3_sideLeftBehind 19 = .ok (.aload_n 0, 1) := by decide +kernel
theorem dX3_sideLeftBehind_20 : decode cX3_sideLeftBehind 20 = .ok (.getfield 15, 3) := by decide +kernel
theorem dX3_sideLeftBehind_23 : decode cX3_sideLeftBehind 23 = .ok (.iload_n 1, 1) := by decide +kernel
theorem dX3_sideLeftBehind_24 : decode cX3_sideLeftBehind 24 = .ok (.iaload, 1) := by decide +kernel
theorem dX3_sideLeftBehind_25 : decode cX3_sideLeftBehind 25 = .ok (.iconst 3, 1) := by decide +kernel
theorem dX3_sideLeftBehind_26 : decode cX3_sideLeftBehind 26 = .ok (.irem, 1) := by decide +kernel
theorem dX3_sideLeftBehind_27 : decode cX3_sideLeftBehind 27 = .ok (.ifCond .ne 7, 3) := by decide +kernel
theorem dX3_sideLeftBehind_30 : decode cX3_sideLeftBehind 30 = .ok (.iconst 1, 1) := by decide +kernel
theorem dX3_sideLeftBehind_31 : decode cX3_sideLeftBehind 31 = .ok (.goto 4, 3) := by decide +kernel
theorem dX3_sideLeftBehind_34 : decode cX3_sideLeftBehind 34 = .ok (.iconst 0, 1) := by decide +kernel
theorem dX3_sideLeftBehind_35 : decode cX3_sideLeftBehind 35 = .ok (.istore 4, 2) := by decide +kernel
theorem dX3_sideLeftBehind_37 : decode cX3_sideLeftBehind 37 = .ok (.iload 4, 2) := by decide +kernel
theorem dX3_sideLeftBehind_39 : decode cX3_sideLeftBehind 39 = .ok (.ifCond .eq 9, 3) := by decide +kernel
theorem dX3_sideLeftBehind_42 : decode cX3_sideLeftBehind 42 = .ok (.iconst 1, 1) := by decide +kernel
theorem dX3_sideLeftBehind_43 : decode cX3_sideLeftBehind 43 = .ok (.iload_n 3, 1) := by decide +kernel
theorem dX3_sideLeftBehind_44 : decode cX3_sideLeftBehind 44 = .ok (.isub, 1) := by decide +kernel
theorem dX3_sideLeftBehind_45 : decode cX3_sideLeftBehind 45 = .ok (.goto 4, 3) := by decide +kernel
theorem dX3_sideLeftBehind_48 : decode cX3_sideLeftBehind 48 = .ok (.iload_n 3, 1) := by decide +kernel
theorem dX3_sideLeftBehind_49 : decode cX3_sideLeftBehind 49 = .ok (.ireturn, 1) := by decide +kernel
theorem dX3_code_0 : decode cX3_code 0 = .ok (.iconst 0, 1) := by decide +kernel
theorem dX3_code_1 : decode cX3_code 1 = .ok (.istore_n 1, 1) := by decide +kernel
theorem dX3_code_2 : decode cX3_code 2 = .ok (.aload_n 0, 1) := by decide +kernel
theorem dX3_code_3 : decode cX3_code 3 = .ok (.getfield 25, 3) := by decide +kernel
theorem dX3_code_6 : decode cX3_code 6 = .ok (.getfield 47, 3) := by decide +kernel
theorem dX3_code_9 : decode cX3_code 9 = .ok (.iconst 1, 1) := by decide +kernel
theorem dX3_code_10 : decode cX3_code 10 = .ok (.isub, 1) := by decide +kernel
theorem dX3_code_11 : decode cX3_code 11 = .ok (.istore_n 2, 1) := by decide +kernel
theorem dX3_code_12 : decode cX3_code 12 = .ok (.iload_n 2, 1) := by decide +kernel
theorem dX3_code_13 : decode cX3_code 13 = .ok (.ifCond .lt 35, 3) := by decide +kernel
theorem dX3_code_16 : decode cX3_code 16 = .ok (.aload_n 0, 1) := by decide +kernel
theorem dX3_code_17 : decode cX3_code 17 = .ok (.getfield 25, 3) := by decide +kernel
theorem dX3_code_20 : decode cX3_code 20 = .ok (.getfield 78, 3) := by decide +kernel
theorem dX3_code_23 : decode cX3_code 23 = .ok (.iload_n 2, 1) := by decide +kernel
theorem dX3_code_24 : decode cX3_code 24 = .ok (.iaload, 1) := by decide +kernel
theorem dX3_code_25 : decode cX3_code 25 = .ok (.iconst 1, 1) := by decide +kernel
theorem dX3_code_26 : decode cX3_code 26 = .ok (.if_icmp .ne 16, 3) := by decide +kernel
theorem dX3_code_29 : decode cX3_code 29 = .ok (.iload_n 1, 1) := by decide +kernel
theorem dX3_code_30 : decode cX3_code 30 = .ok (.iconst 3, 1) := by decide +kernel
theorem dX3_code_31 : decode cX3_code 31 = .ok (.imul, 1) := by decide +kernel
theorem dX3_code_32 : decode cX3_code 32 = .ok (.aload_n 0, 1) := by decide +kernel
theorem dX3_code_33 : decode cX3_code 33 = .ok (.getfield 15, 3) := by decide +kernel
theorem dX3_code_36 : decode cX3_code 36 = .ok (.iload_n 2, 1) := by decide +kernel
theorem dX3_code_37 : decode cX3_code 37 = .ok (.iaload, 1) := by decide +kernel
theorem dX3_code_38 : decode cX3_code 38 = .ok (.iconst 3, 1) := by decide +kernel
theorem dX3_code_39 : decode cX3_code 39 = .ok (.irem, 1) := by decide +kernel
theorem dX3_code_40 : decode cX3_code 40 = .ok (.iadd, 1) := by decide +kernel
theorem dX3_code_41 : decode cX3_code 41 = .ok (.istore_n 1, 1) := by decide +kernel
theorem dX3_code_42 : decode cX3_code 42 = .ok (.iinc 2 (-1), 3) := by decide +kernel
theorem dX3_code_45 : decode cX3_code 45 = .ok (.goto (-33), 3) := by decide +kernel
theorem dX3_code_48 : decode cX3_code 48 = .ok (.iload_n 1, 1) := by decide +kernel
theorem dX3_code_49 : decode cX3_code 49 = .ok (.aload_n 0, 1) := by decide +kernel
theorem dX3_code_50 : decode cX3_code 50 = .ok (.getfield 25, 3) := by decide +kernel
theorem dX3_code_53 : decode cX3_code 53 = .ok (.getfield 47, 3) := by decide +kernel
theorem dX3_code_56 : decode cX3_code 56 = .ok (.ishl, 1) := by decide +kernel
theorem dX3_code_57 : decode cX3_code 57 = .ok (.aload_n 0, 1) := by decide +kernel
theorem dX3_code_58 : decode cX3_code 58 = .ok (.getfield 9, 3) := by decide +kernel
theorem dX3_code_61 : decode cX3_code 61 = .ok (.ior, 1) := by decide +kernel
theorem dX3_code_62 : decode cX3_code 62 = .ok (.ireturn, 1) := by decide +kernel
theorem dX3_standAs_0 : decode cX3_standAs 0 = .ok (.aload_n 0, 1) := by decide +kernel
theorem dX3_standAs_1 : decode cX3_standAs 1 = .ok (.aload_n 0, 1) := by decide +kernel
theorem dX3_standAs_2 : decode cX3_standAs 2 = .ok (.getfield 25, 3) := by decide +kernel
theorem dX3_standAs_5 : decode cX3_standAs 5 = .ok (.iload_n 1, 1) := by decide +kernel
theorem dX3_standAs_6 : decode cX3_standAs 6 = .ok (.invokevirtual 81, 3) := by decide +kernel
theorem dX3_standAs_9 : decode cX3_standAs 9 = .ok (.putfield 9, 3) := by decide +kernel
theorem dX3_standAs_12 : decode cX3_standAs 12 = .ok (.iload_n 1, 1) := by decide +kernel
theorem dX3_standAs_13 : decode cX3_standAs 13 = .ok (.aload_n 0, 1) := by decide +kernel
theorem dX3_standAs_14 : decode cX3_standAs 14 = .ok (.getfield 25, 3) := by decide +kernel
theorem dX3_standAs_17 : decode cX3_standAs 17 = .ok (.getfield 47, 3) := by decide +kernel
theorem dX3_standAs_20 : decode cX3_standAs 20 = .ok (.ishr, 1) := by decide +kernel
theorem dX3_standAs_21 : decode cX3_standAs 21 = .ok (.istore_n 2, 1) := by decide +kernel
theorem dX3_standAs_22 : decode cX3_standAs 22 = .ok (.iconst 0, 1) := by decide +kernel
theorem dX3_standAs_23 : decode cX3_standAs 23 = .ok (.istore_n 3, 1) := by decide +kernel
theorem dX3_standAs_24 : decode cX3_standAs 24 = .ok (.iload_n 3, 1) := by decide +kernel
theorem dX3_standAs_25 : decode cX3_standAs 25 = .ok (.aload_n 0, 1) := by decide +kernel
theorem dX3_standAs_26 : decode cX3_standAs 26 = .ok (.getfield 25, 3) := by decide +kernel
theorem dX3_standAs_29 : decode cX3_standAs 29 = .ok (.getfield 47, 3) := by decide +kernel
theorem dX3_standAs_32 : decode cX3_standAs 32 = .ok (.if_icmp .ge 38, 3) := by decide +kernel
theorem dX3_standAs_35 : decode cX3_standAs 35 = .ok (.aload_n 0, 1) := by decide +kernel
theorem dX3_standAs_36 : decode cX3_standAs 36 = .ok (.getfield 25, 3) := by decide +kernel
theorem dX3_standAs_39 : decode cX3_standAs 39 = .ok (.getfield 78, 3) := by decide +kernel
theorem dX3_standAs_42 : decode cX3_standAs 42 = .ok (.iload_n 3, 1) := by decide +kernel
theorem dX3_standAs_43 : decode cX3_standAs 43 = .ok (.iaload, 1) := by decide +kernel
theorem dX3_standAs_44 : decode cX3_standAs 44 = .ok (.iconst 1, 1) := by decide +kernel
theorem dX3_standAs_45 : decode cX3_standAs 45 = .ok (.if_icmp .eq 6, 3) := by decide +kernel
theorem dX3_standAs_48 : decode cX3_standAs 48 = .ok (.goto 16, 3) := by decide +kernel
theorem dX3_standAs_51 : decode cX3_standAs 51 = .ok (.aload_n 0, 1) := by decide +kernel
theorem dX3_standAs_52 : decode cX3_standAs 52 = .ok (.getfield 15, 3) := by decide +kernel
theorem dX3_standAs_55 : decode cX3_standAs 55 = .ok (.iload_n 3, 1) := by decide +kernel
theorem dX3_standAs_56 : decode cX3_standAs 56 = .ok (.iload_n 2, 1) := by decide +kernel
theorem dX3_standAs_57 : decode cX3_standAs 57 = .ok (.iconst 3, 1) := by decide +kernel
theorem dX3_standAs_58 : decode cX3_standAs 58 = .ok (.irem, 1) := by decide +kernel
theorem dX3_standAs_59 : decode cX3_standAs 59 = .ok (.iastore, 1) := by decide +kernel
theorem dX3_standAs_60 : decode cX3_standAs 60 = .ok (.iload_n 2, 1) := by decide +kernel
theorem dX3_standAs_61 : decode cX3_standAs 61 = .ok (.iconst 3, 1) := by decide +kernel
theorem dX3_standAs_62 : decode cX3_standAs 62 = .ok (.idiv, 1) := by decide +kernel
theorem dX3_standAs_63 : decode cX3_standAs 63 = .ok (.istore_n 2, 1) := by decide +kernel
theorem dX3_standAs_64 : decode cX3_standAs 64 = .ok (.iinc 3 1, 3) := by decide +kernel
theorem dX3_standAs_67 : decode cX3_standAs 67 = .ok (.goto (-43), 3) := by decide +kernel
theorem dX3_standAs_70 : decode cX3_standAs 70 = .ok (.return_, 1) := by decide +kernel
theorem dX4_init_0 : decode cX4_init 0 = .ok (.aload_n 0, 1) := by decide +kernel
theorem dX4_init_1 : decode cX4_init 1 = .ok (.invokespecial 3, 3) := by decide +kernel
theorem dX4_init_4 : decode cX4_init 4 = .ok (.aload_n 0, 1) := by decide +kernel
theorem dX4_init_5 : decode cX4_init 5 = .ok (.sipush 400, 3) := by decide +kernel
theorem dX4_init_8 : decode cX4_init 8 = .ok (.newarray .byte, 2) := by decide +kernel
theorem dX4_init_10 : decode cX4_init 10 = .ok (.putfield 9, 3) := by decide +kernel
theorem dX4_init_13 : decode cX4_init 13 = .ok (.aload_n 0, 1) := by decide +kernel
theorem dX4_init_14 : decode cX4_init 14 = .ok (.iconst 0, 1) := by decide +kernel
theorem dX4_init_15 : decode cX4_init 15 = .ok (.putfield 15, 3) := by decide +kernel
theorem dX4_init_18 : decode cX4_init 18 = .ok (.aload_n 0, 1) := by decide +kernel
theorem dX4_init_19 : decode cX4_init 19 = .ok (.iconst 0, 1) := by decide +kernel
theorem dX4_init_20 : decode cX4_init 20 = .ok (.putfield 19, 3) := by decide +kernel
theorem dX4_init_23 : decode cX4_init 23 = .ok (.aload_n 0, 1) := by decide +kernel
theorem dX4_init_24 : decode cX4_init 24 = .ok (.iconst 0, 1) := by decide +kernel
theorem dX4_init_25 : decode cX4_init 25 = .ok (.putfield 22, 3) := by decide +kernel
theorem dX4_init_28 : decode cX4_init 28 = .ok (.aload_n 0, 1) := by decide +kernel
theorem dX4_init_29 : decode cX4_init 29 = .ok (.iconst 0, 1) := by decide +kernel
theorem dX4_init_30 : decode cX4_init 30 = .ok (.putfield 25, 3) := by decide +kernel
theorem dX4_init_33 : decode cX4_init 33 = .ok (.aload_n 0, 1) := by decide +kernel
theorem dX4_init_34 : decode cX4_init 34 = .ok (.iconst 0, 1) := by decide +kernel
theorem dX4_init_35 : decode cX4_init 35 = .ok (.putfield 28, 3) := by decide +kernel
theorem dX4_init_38 : decode cX4_init 38 = .ok (.aload_n 0, 1) := by decide +kernel
theorem dX4_init_39 : decode cX4_init 39 = .ok (.iconst 0, 1) := by decide +kernel
theorem dX4_init_40 : decode cX4_init 40 = .ok (.putfield 31, 3) := by decide +kernel
theorem dX4_init_43 : decode cX4_init 43 = .ok (.return_, 1) := by decide +kernel
theorem dX4_add_0 : decode cX4_add 0 = .ok (.iload_n 3, 1) := by decide +kernel
theorem dX4_add_1 : decode cX4_add 1 = .ok (.iconst 1, 1) := by decide +kernel
theorem dX4_add_2 : decode cX4_add 2 = .ok (.isub, 1) := by decide +kernel
theorem dX4_add_3 : decode cX4_add 3 = .ok (.istore 4, 2) := by decide +kernel
theorem dX4_add_5 : decode cX4_add 5 = .ok (.iload 4, 2) := by decide +kernel
theorem dX4_add_7 : decode cX4_add 7 = .ok (.ifCond .lt 47, 3) := by decide +kernel
theorem dX4_add_10 : decode cX4_add 10 = .ok (.aload_n 0, 1) := by decide +kernel
theorem dX4_add_11 : decode cX4_add 11 = .ok (.getfield 15, 3) := by decide +kernel
theorem dX4_add_14 : decode cX4_add 14 = .ok (.sipush 400, 3) := by decide +kernel
theorem dX4_add_17 : decode cX4_add 17 = .ok (.if_icmp .ge 37, 3) := by decide +kernel
theorem dX4_add_20 : decode cX4_add 20 = .ok (.aload_n 0, 1) := by decide +kernel
theorem dX4_add_21 : decode cX4_add 21 = .ok (.getfield 9, 3) := by decide +kernel
theorem dX4_add_24 : decode cX4_add 24 = .ok (.aload_n 0, 1) := by decide +kernel
theorem dX4_add_25 : decode cX4_add 25 = .ok (.getfield 15, 3) := by decide +kernel
theorem dX4_add_28 : decode cX4_add 28 = .ok (.lload_n 1, 1) := by decide +kernel
theorem dX4_add_29 : decode cX4_add 29 = .ok (.bipush 8, 2) := by decide +kernel
theorem dX4_add_31 : decode cX4_add 31 = .ok (.iload 4, 2) := by decide +kernel
theorem dX4_add_33 : decode cX4_add 33 = .ok (.imul, 1) := by decide +kernel
theorem dX4_add_34 : decode cX4_add 34 = .ok (.lushr, 1) := by decide +kernel
theorem dX4_add_35 : decode cX4_add 35 = .ok (.l2i, 1) := by decide +kernel
theorem dX4_add_36 : decode cX4_add 36 = .ok (.i2b, 1) := by decide +kernel
theorem dX4_add_37 : decode cX4_add 37 = .ok (.bastore, 1) := by decide +kernel
theorem dX4_add_38 : decode cX4_add 38 = .ok (.aload_n 0, 1) := by decide +kernel
theorem dX4_add_39 : decode cX4_add 39 = .ok (.dup, 1) := by decide +kernel
theorem dX4_add_40 : decode cX4_add 40 = .ok (.getfield 15, 3) := by decide +kernel
theorem dX4_add_43 : decode cX4_add 43 = .ok (.iconst 1, 1) := by decide +kernel
theorem dX4_add_44 : decode cX4_add 44 = .ok (.iadd, 1) := by decide +kernel
theorem dX4_add_45 : decode cX4_add 45 = .ok (.putfield 15, 3) := by decide +kernel
theorem dX4_add_48 : decode cX4_add 48 = .ok (.iinc 4 (-1), 3) := by decide +kernel
theorem dX4_add_51 : decode cX4_add 51 = .ok (.goto (-46), 3) := by decide +kernel
theorem dX4_add_54 : decode cX4_add 54 = .ok (.return_, 1) := by decide +kernel
theorem dX4_read_0 : decode cX4_read 0 = .ok (.new 34, 3) := by decide +kernel
theorem dX4_read_3 : decode cX4_read 3 = .ok (.dup, 1) := by decide +kernel
theorem dX4_read_4 : decode cX4_read 4 = .ok (.invokespecial 36, 3) := by decide +kernel
theorem dX4_read_7 : decode cX4_read 7 = .ok (.astore_n 1, 1) := by decide +kernel
theorem dX4_read_8 : decode cX4_read 8 = .ok (.aload_n 0, 1) := by decide +kernel
theorem dX4_read_9 : decode cX4_read 9 = .ok (.iconst 0, 1) := by decide +kernel
theorem dX4_read_10 : decode cX4_read 10 = .ok (.putfield 22, 3) := by decide +kernel
theorem dX4_read_13 : decode cX4_read 13 = .ok (.aload_n 0, 1) := by decide +kernel
theorem dX4_read_14 : decode cX4_read 14 = .ok (.invokevirtual 37, 3) := by decide +kernel
theorem dX4_read_17 : decode cX4_read 17 = .ok (.aload_n 0, 1) := by decide +kernel
theorem dX4_read_18 : decode cX4_read 18 = .ok (.aload_n 1, 1) := by decide +kernel
theorem dX4_read_19 : decode cX4_read 19 = .ok (.invokevirtual 40, 3) := by decide +kernel
theorem dX4_read_22 : decode cX4_read 22 = .ok (.ifCond .eq 23, 3) := by decide +kernel
theorem dX4_read_25 : decode cX4_read 25 = .ok (.aload_n 0, 1) := by decide +kernel
theorem dX4_read_26 : decode cX4_read 26 = .ok (.aload_n 1, 1) := by decide +kernel
theorem dX4_read_27 : decode cX4_read 27 = .ok (.invokevirtual 44, 3) := by decide +kernel
theorem dX4_read_30 : decode cX4_read 30 = .ok (.ifCond .eq 15, 3) := by decide +kernel
theorem dX4_read_33 : decode cX4_read 33 = .ok (.aload_n 0, 1) := by decide +kernel
theorem dX4_read_34 : decode cX4_read 34 = .ok (.aload_n 1, 1) := by decide +kernel
theorem dX4_read_35 : decode cX4_read 35 = .ok (.invokevirtual 47, 3) := by decide +kernel
theorem dX4_read_38 : decode cX4_read 38 = .ok (.ifCond .eq 7, 3) := by decide +kernel
theorem dX4_read_41 : decode cX4_read 41 = .ok (.iconst 1, 1) := by decide +kernel
theorem dX4_read_42 : decode cX4_read 42 = .ok (.goto 4, 3) := by decide +kernel
theorem dX4_read_45 : decode cX4_read 45 = .ok (.iconst 0, 1) := by decide +kernel
theorem dX4_read_46 : decode cX4_read 46 = .ok (.istore_n 2, 1) := by decide +kernel
theorem dX4_read_47 : decode cX4_read 47 = .ok (.aload_n 0, 1) := by decide +kernel
theorem dX4_read_48 : decode cX4_read 48 = .ok (.iconst 0, 1) := by decide +kernel
theorem dX4_read_49 : decode cX4_read 49 = .ok (.putfield 15, 3) := by decide +kernel
theorem dX4_read_52 : decode cX4_read 52 = .ok (.iload_n 2, 1) := by decide +kernel
theorem dX4_read_53 : decode cX4_read 53 = .ok (.ifCond .eq 7, 3) := by decide +kernel
theorem dX4_read_56 : decode cX4_read 56 = .ok (.aload_n 1, 1) := by decide +kernel
theorem dX4_read_57 : decode cX4_read 57 = .ok (.goto 4, 3) := by decide +kernel
theorem dX4_read_60 : decode cX4_read 60 = .ok (.aconst_null, 1) := by decide +kernel
theorem dX4_read_61 : decode cX4_read 61 = .ok (.areturn, 1) := by decide +kernel
theorem dX4_readLaw_0 : decode cX4_readLaw 0 = .ok (.aload_n 0, 1) := by decide +kernel
theorem dX4_readLaw_1 : decode cX4_readLaw 1 = .ok (.ldc 50, 2) := by decide +kernel
theorem dX4_readLaw_3 : decode cX4_readLaw 3 = .ok (.invokevirtual 52, 3) := by decide +kernel
theorem dX4_readLaw_6 : decode cX4_readLaw 6 = .ok (.ifCond .ne 9, 3) := by decide +kernel
theorem dX4_readLaw_9 : decode cX4_readLaw 9 = .ok (.aload_n 0, 1) := by decide +kernel
theorem dX4_readLaw_10 : decode cX4_readLaw 10 = .ok (.iconst 1, 1) := by decide +kernel
theorem dX4_readLaw_11 : decode cX4_readLaw 11 = .ok (.invokevirtual 56, 3) := by decide +kernel
theorem dX4_readLaw_14 : decode cX4_readLaw 14 = .ok (.ireturn, 1) := by decide +kernel
theorem dX4_readLaw_15 : decode cX4_readLaw 15 = .ok (.aload_n 0, 1) := by decide +kernel
theorem dX4_readLaw_16 : decode cX4_readLaw 16 = .ok (.invokevirtual 37, 3) := by decide +kernel
theorem dX4_readLaw_19 : decode cX4_readLaw 19 = .ok (.aload_n 0, 1) := by decide +kernel
theorem dX4_readLaw_20 : decode cX4_readLaw 20 = .ok (.iconst 1, 1) := by decide +kernel
theorem dX4_readLaw_21 : decode cX4_readLaw 21 = .ok (.bipush 6, 2) := by decide +kernel
theorem dX4_readLaw_23 : decode cX4_readLaw 23 = .ok (.invokevirtual 60, 3) := by decide +kernel
theorem dX4_readLaw_26 : decode cX4_readLaw 26 = .ok (.ifCond .ne 5, 3) := by decide +kernel
theorem dX4_readLaw_29 : decode cX4_readLaw 29 = .ok (.iconst 0, 1) := by decide +kernel
theorem dX4_readLaw_30 : decode cX4_readLaw 30 = .ok (.ireturn, 1) := by decide +kernel
theorem dX4_readLaw_31 : decode cX4_readLaw 31 = .ok (.aload_n 1, 1) := by decide +kernel
theorem dX4_readLaw_32 : decode cX4_readLaw 32 = .ok (.aload_n 0, 1) := by decide +kernel
theorem dX4_readLaw_33 : decode cX4_readLaw 33 = .ok (.getfield 28, 3) := by decide +kernel
theorem dX4_readLaw_36 : decode cX4_readLaw 36 = .ok (.putfield 64, 3) := by decide +kernel
theorem dX4_readLaw_39 : decode cX4_readLaw 39 = .ok (.aload_n 0, 1) := by decide +kernel
theorem dX4_readLaw_40 : decode cX4_readLaw 40 = .ok (.invokevirtual 37, 3) := by decide +kernel
theorem dX4_readLaw_43 : decode cX4_readLaw 43 = .ok (.aload_n 0, 1) := by decide +kernel
theorem dX4_readLaw_44 : decode cX4_readLaw 44 = .ok (.invokevirtual 67, 3) := by decide +kernel
theorem dX4_readLaw_47 : decode cX4_readLaw 47 = .ok (.ifCond .ne 5, 3) := by decide +kernel
theorem dX4_readLaw_50 : decode cX4_readLaw 50 = .ok (.iconst 0, 1) := by decide +kernel
theorem dX4_readLaw_51 : decode cX4_readLaw 51 = .ok (.ireturn, 1) := by decide +kernel
theorem dX4_readLaw_52 : decode cX4_readLaw 52 = .ok (.aload_n 0, 1) := by decide +kernel
theorem dX4_readLaw_53 : decode cX4_readLaw 53 = .ok (.invokevirtual 37, 3) := by decide +kernel
theorem dX4_readLaw_56 : decode cX4_readLaw 56 = .ok (.iconst 1, 1) := by decide +kernel
theorem dX4_readLaw_57 : decode cX4_readLaw 57 = .ok (.ireturn, 1) := by decide +kernel
theorem dX4_readHurdles_0 : decode cX4_readHurdles 0 = .ok (.aload_n 0, 1) := by decide +kernel
theorem dX4_readHurdles_1 : decode cX4_readHurdles 1 = .ok (.ldc 71, 2) := by decide +kernel
theorem dX4_readHurdles_3 : decode cX4_readHurdles 3 = .ok (.invokevirtual 52, 3) := by decide +kernel
theorem dX4_readHurdles_6 : decode cX4_readHurdles 6 = .ok (.ifCond .ne 9, 3) := by decide +kernel
theorem dX4_readHurdles_9 : decode cX4_readHurdles 9 = .ok (.aload_n 0, 1) := by decide +kernel
theorem dX4_readHurdles_10 : decode cX4_readHurdles 10 = .ok (.iconst 1, 1) := by decide +kernel
theorem dX4_readHurdles_11 : decode cX4_readHurdles 11 = .ok (.invokevirtual 56, 3) := by decide +kernel
theorem dX4_readHurdles_14 : decode cX4_readHurdles 14 = .ok (.ireturn, 1) := by decide +kernel
theorem dX4_readHurdles_15 : decode cX4_readHurdles 15 = .ok (.iconst 0, 1) := by decide +kernel
theorem dX4_readHurdles_16 : decode cX4_readHurdles 16 = .ok (.istore_n 2, 1) := by decide +kernel
theorem dX4_readHurdles_17 : decode cX4_readHurdles 17 = .ok (.iload_n 2, 1) := by decide +kernel
theorem dX4_readHurdles_18 : decode cX4_readHurdles 18 = .ok (.iconst 5, 1) := by decide +kernel
theorem dX4_readHurdles_19 : decode cX4_readHurdles 19 = .ok (.if_icmp .ge 36, 3) := by decide +kernel
theorem dX4_readHurdles_22 : decode cX4_readHurdles 22 = .ok (.aload_n 0, 1) := by decide +kernel
theorem dX4_readHurdles_23 : decode cX4_readHurdles 23 = .ok (.ldc 71, 2) := by decide +kernel
theorem dX4_readHurdles_25 : decode cX4_readHurdles 25 = .ok (.invokevirtual 52, 3) := by decide +kernel
theorem dX4_readHurdles_28 : decode cX4_readHurdles 28 = .ok (.ifCond .eq 27, 3) := by decide +kernel
theorem dX4_readHurdles_31 : decode cX4_readHurdles 31 = .ok (.aload_n 0, 1) := by decide +kernel
theorem dX4_readHurdles_32 : decode cX4_readHurdles 32 = .ok (.invokevirtual 37, 3) := by decide +kernel
theorem dX4_readHurdles_35 : decode cX4_readHurdles 35 = .ok (.aload_n 0, 1) := by decide +kernel
theorem dX4_readHurdles_36 : decode cX4_readHurdles 36 = .ok (.aload_n 1, 1) := by decide +kernel
theorem dX4_readHurdles_37 : decode cX4_readHurdles 37 = .ok (.invokevirtual 73, 3) := by decide +kernel
theorem dX4_readHurdles_40 : decode cX4_readHurdles 40 = .ok (.ifCond .ne 5, 3) := by decide +kernel
theorem dX4_readHurdles_43 : decode cX4_readHurdles 43 = .ok (.iconst 0, 1) := by decide +kernel
theorem dX4_readHurdles_44 : decode cX4_readHurdles 44 = .ok (.ireturn, 1) := by decide +kernel
theorem dX4_readHurdles_45 : decode cX4_readHurdles 45 = .ok (.aload_n 0, 1) := by decide +kernel
theorem dX4_readHurdles_46 : decode cX4_readHurdles 46 = .ok (.invokevirtual 37, 3) := by decide +kernel
theorem dX4_readHurdles_49 : decode cX4_readHurdles 49 = .ok (.iinc 2 1, 3) := by decide +kernel
theorem dX4_readHurdles_52 : decode cX4_readHurdles 52 = .ok (.goto (-35), 3) := by decide +kernel
theorem dX4_readHurdles_55 : decode cX4_readHurdles 55 = .ok (.aload_n 0, 1) := by decide +kernel
theorem dX4_readHurdles_56 : decode cX4_readHurdles 56 = .ok (.ldc 71, 2) := by decide +kernel
theorem dX4_readHurdles_58 : decode cX4_readHurdles 58 = .ok (.invokevirtual 52, 3) := by decide +kernel
theorem dX4_readHurdles_61 : decode cX4_readHurdles 61 = .ok (.ifCond .eq 11, 3) := by decide +kernel
theorem dX4_readHurdles_64 : decode cX4_readHurdles 64 = .ok (.aload_n 0, 1) := by decide +kernel
theorem dX4_readHurdles_65 : decode cX4_readHurdles 65 = .ok (.iconst 3, 1) := by decide +kernel
theorem dX4_readHurdles_66 : decode cX4_readHurdles 66 = .ok (.invokevirtual 56, 3) := by decide +kernel
theorem dX4_readHurdles_69 : decode cX4_readHurdles 69 = .ok (.ifCond .eq 7, 3) := by decide +kernel
theorem dX4_readHurdles_72 : decode cX4_readHurdles 72 = .ok (.iconst 1, 1) := by decide +kernel
theorem dX4_readHurdles_73 : decode cX4_readHurdles 73 = .ok (.goto 4, 3) := by decide +kernel
theorem dX4_readHurdles_76 : decode cX4_readHurdles 76 = .ok (.iconst 0, 1) := by decide +kernel
theorem dX4_readHurdles_77 : decode cX4_readHurdles 77 = .ok (.ireturn, 1) := by decide +kernel
theorem dX4_readHurdle_0 : decode cX4_readHurdle 0 = .ok (.aload_n 1, 1) := by decide +kernel
theorem dX4_readHurdle_1 : decode cX4_readHurdle 1 = .ok (.getfield 76, 3) := by decide +kernel
theorem dX4_readHurdle_4 : decode cX4_readHurdle 4 = .ok (.istore_n 2, 1) := by decide +kernel
theorem dX4_readHurdle_5 : decode cX4_readHurdle 5 = .ok (.aload_n 0, 1) := by decide +kernel
theorem dX4_readHurdle_6 : decode cX4_readHurdle 6 = .ok (.invokevirtual 79, 3) := by decide +kernel
theorem dX4_readHurdle_9 : decode cX4_readHurdle 9 = .ok (.istore_n 3, 1) := by decide +kernel
theorem dX4_readHurdle_10 : decode cX4_readHurdle 10 = .ok (.iload_n 3, 1) := by decide +kernel
theorem dX4_readHurdle_11 : decode cX4_readHurdle 11 = .ok (.ifCond .lt 8, 3) := by decide +kernel
theorem dX4_readHurdle_14 : decode cX4_readHurdle 14 = .ok (.iload_n 2, 1) := by decide +kernel
theorem dX4_readHurdle_15 : decode cX4_readHurdle 15 = .ok (.iconst 5, 1) := by decide +kernel
theorem dX4_readHurdle_16 : decode cX4_readHurdle 16 = .ok (.if_icmp .lt 9, 3) := by decide +kernel
theorem dX4_readHurdle_19 : decode cX4_readHurdle 19 = .ok (.aload_n 0, 1) := by decide +kernel
theorem dX4_readHurdle_20 : decode cX4_readHurdle 20 = .ok (.iconst 1, 1) := by decide +kernel
theorem dX4_readHurdle_21 : decode cX4_readHurdle 21 = .ok (.invokevirtual 56, 3) := by decide +kernel
theorem dX4_readHurdle_24 : decode cX4_readHurdle 24 = .ok (.ireturn, 1) := by decide +kernel
theorem dX4_readHurdle_25 : decode cX4_readHurdle 25 = .ok (.aload_n 1, 1) := by decide +kernel
theorem dX4_readHurdle_26 : decode cX4_readHurdle 26 = .ok (.getfield 83, 3) := by decide +kernel
theorem dX4_readHurdle_29 : decode cX4_readHurdle 29 = .ok (.iload_n 2, 1) := by decide +kernel
theorem dX4_readHurdle_30 : decode cX4_readHurdle 30 = .ok (.iload_n 3, 1) := by decide +kernel
theorem dX4_readHurdle_31 : decode cX4_readHurdle 31 = .ok (.iastore, 1) := by decide +kernel
theorem dX4_readHurdle_32 : decode cX4_readHurdle 32 = .ok (.aload_n 0, 1) := by decide +kernel
theorem dX4_readHurdle_33 : decode cX4_readHurdle 33 = .ok (.invokevirtual 37, 3) := by decide +kernel
theorem dX4_readHurdle_36 : decode cX4_readHurdle 36 = .ok (.aload_n 0, 1) := by decide +kernel
theorem dX4_readHurdle_37 : decode cX4_readHurdle 37 = .ok (.aload_n 1, 1) := by decide +kernel
theorem dX4_readHurdle_38 : decode cX4_readHurdle 38 = .ok (.invokevirtual 86, 3) := by decide +kernel
theorem dX4_readHurdle_41 : decode cX4_readHurdle 41 = .ok (.ifCond .ne 5, 3) := by decide +kernel
theorem dX4_readHurdle_44 : decode cX4_readHurdle 44 = .ok (.iconst 0, 1) := by decide +kernel
theorem dX4_readHurdle_45 : decode cX4_readHurdle 45 = .ok (.ireturn, 1) := by decide +kernel
theorem dX4_readHurdle_46 : decode cX4_readHurdle 46 = .ok (.aload_n 1, 1) := by decide +kernel
theorem dX4_readHurdle_47 : decode cX4_readHurdle 47 = .ok (.getfield 89, 3) := by decide +kernel
theorem dX4_readHurdle_50 : decode cX4_readHurdle 50 = .ok (.iload_n 2, 1) := by decide +kernel
theorem dX4_readHurdle_51 : decode cX4_readHurdle 51 = .ok (.aload_n 0, 1) := by decide +kernel
theorem dX4_readHurdle_52 : decode cX4_readHurdle 52 = .ok (.getfield 28, 3) := by decide +kernel
theorem dX4_readHurdle_55 : decode cX4_readHurdle 55 = .ok (.iastore, 1) := by decide +kernel
theorem dX4_readHurdle_56 : decode cX4_readHurdle 56 = .ok (.aload_n 0, 1) := by decide +kernel
theorem dX4_readHurdle_57 : decode cX4_readHurdle 57 = .ok (.invokevirtual 37, 3) := by decide +kernel
theorem dX4_readHurdle_60 : decode cX4_readHurdle 60 = .ok (.aload_n 0, 1) := by decide +kernel
theorem dX4_readHurdle_61 : decode cX4_readHurdle 61 = .ok (.aload_n 1, 1) := by decide +kernel
theorem dX4_readHurdle_62 : decode cX4_readHurdle 62 = .ok (.invokevirtual 86, 3) := by decide +kernel
theorem dX4_readHurdle_65 : decode cX4_readHurdle 65 = .ok (.ifCond .ne 5, 3) := by decide +kernel
theorem dX4_readHurdle_68 : decode cX4_readHurdle 68 = .ok (.iconst 0, 1) := by decide +kernel
theorem dX4_readHurdle_69 : decode cX4_readHurdle 69 = .ok (.ireturn, 1) := by decide +kernel
theorem dX4_readHurdle_70 : decode cX4_readHurdle 70 = .ok (.aload_n 1, 1) := by decide +kernel
theorem dX4_readHurdle_71 : decode cX4_readHurdle 71 = .ok (.getfield 92, 3) := by decide +kernel
theorem dX4_readHurdle_74 : decode cX4_readHurdle 74 = .ok (.iload_n 2, 1) := by decide +kernel
theorem dX4_readHurdle_75 : decode cX4_readHurdle 75 = .ok (.aload_n 0, 1) := by decide +kernel
theorem dX4_readHurdle_76 : decode cX4_readHurdle 76 = .ok (.getfield 28, 3) := by decide +kernel
theorem dX4_readHurdle_79 : decode cX4_readHurdle 79 = .ok (.iastore, 1) := by decide +kernel
theorem dX4_readHurdle_80 : decode cX4_readHurdle 80 = .ok (.aload_n 0, 1) := by decide +kernel
theorem dX4_readHurdle_81 : decode cX4_readHurdle 81 = .ok (.invokevirtual 37, 3) := by decide +kernel
theorem dX4_readHurdle_84 : decode cX4_readHurdle 84 = .ok (.aload_n 0, 1) := by decide +kernel
theorem dX4_readHurdle_85 : decode cX4_readHurdle 85 = .ok (.iconst 0, 1) := by decide +kernel
theorem dX4_readHurdle_86 : decode cX4_readHurdle 86 = .ok (.aload_n 1, 1) := by decide +kernel
theorem dX4_readHurdle_87 : decode cX4_readHurdle 87 = .ok (.getfield 76, 3) := by decide +kernel
theorem dX4_readHurdle_90 : decode cX4_readHurdle 90 = .ok (.invokevirtual 60, 3) := by decide +kernel
theorem dX4_readHurdle_93 : decode cX4_readHurdle 93 = .ok (.ifCond .ne 5, 3) := by decide +kernel
theorem dX4_readHurdle_96 : decode cX4_readHurdle 96 = .ok (.iconst 0, 1) := by decide +kernel
theorem dX4_readHurdle_97 : decode cX4_readHurdle 97 = .ok (.ireturn, 1) := by decide +kernel
theorem dX4_readHurdle_98 : decode cX4_readHurdle 98 = .ok (.aload_n 1, 1) := by decide +kernel
theorem dX4_readHurdle_99 : decode cX4_readHurdle 99 = .ok (.getfield 95, 3) := by decide +kernel
theorem dX4_readHurdle_102 : decode cX4_readHurdle 102 = .ok (.iload_n 2, 1) := by decide +kernel
theorem dX4_readHurdle_103 : decode cX4_readHurdle 103 = .ok (.aload_n 0, 1) := by decide +kernel
theorem dX4_readHurdle_104 : decode cX4_readHurdle 104 = .ok (.getfield 28, 3) := by decide +kernel
theorem dX4_readHurdle_107 : decode cX4_readHurdle 107 = .ok (.iastore, 1) := by decide +kernel
theorem dX4_readHurdle_108 : decode cX4_readHurdle 108 = .ok (.aload_n 0, 1) := by decide +kernel
theorem dX4_readHurdle_109 : decode cX4_readHurdle 109 = .ok (.invokevirtual 37, 3) := by decide +kernel
theorem dX4_readHurdle_112 : decode cX4_readHurdle 112 = .ok (.aload_n 1, 1) := by decide +kernel
theorem dX4_readHurdle_113 : decode cX4_readHurdle 113 = .ok (.dup, 1) := by decide +kernel
theorem dX4_readHurdle_114 : decode cX4_readHurdle 114 = .ok (.getfield 76, 3) := by decide +kernel
theorem dX4_readHurdle_117 : decode cX4_readHurdle 117 = .ok (.iconst 1, 1) := by decide +kernel
theorem dX4_readHurdle_118 : decode cX4_readHurdle 118 = .ok (.iadd, 1) := by decide +kernel
theorem dX4_readHurdle_119 : decode cX4_readHurdle 119 = .ok (.putfield 76, 3) := by decide +kernel
theorem dX4_readHurdle_122 : decode cX4_readHurdle 122 = .ok (.aload_n 0, 1) := by decide +kernel
theorem dX4_readHurdle_123 : decode cX4_readHurdle 123 = .ok (.invokevirtual 67, 3) := by decide +kernel
theorem dX4_readHurdle_126 : decode cX4_readHurdle 126 = .ok (.ireturn, 1) := by decide +kernel
theorem dX4_readBeasts_0 : decode cX4_readBeasts 0 = .ok (.iconst 0, 1) := by decide +kernel
theorem dX4_readBeasts_1 : decode cX4_readBeasts 1 = .ok (.istore_n 2, 1) := by decide +kernel
theorem dX4_readBeasts_2 : decode cX4_readBeasts 2 = .ok (.iload_n 2, 1) := by decide +kernel
theorem dX4_readBeasts_3 : decode cX4_readBeasts 3 = .ok (.bipush 8, 2) := by decide +kernel
theorem dX4_readBeasts_5 : decode cX4_readBeasts 5 = .ok (.if_icmp .ge 36, 3) := by decide +kernel
theorem dX4_readBeasts_8 : decode cX4_readBeasts 8 = .ok (.aload_n 0, 1) := by decide +kernel
theorem dX4_readBeasts_9 : decode cX4_readBeasts 9 = .ok (.ldc 98, 2) := by decide +kernel
theorem dX4_readBeasts_11 : decode cX4_readBeasts 11 = .ok (.invokevirtual 52, 3) := by decide +kernel
theorem dX4_readBeasts_14 : decode cX4_readBeasts 14 = .ok (.ifCond .eq 27, 3) := by decide +kernel
theorem dX4_readBeasts_17 : decode cX4_readBeasts 17 = .ok (.aload_n 0, 1) := by decide +kernel
theorem dX4_readBeasts_18 : decode cX4_readBeasts 18 = .ok (.invokevirtual 37, 3) := by decide +kernel
theorem dX4_readBeasts_21 : decode cX4_readBeasts 21 = .ok (.aload_n 0, 1) := by decide +kernel
theorem dX4_readBeasts_22 : decode cX4_readBeasts 22 = .ok (.aload_n 1, 1) := by decide +kernel
theorem dX4_readBeasts_23 : decode cX4_readBeasts 23 = .ok (.invokevirtual 100, 3) := by decide +kernel
theorem dX4_readBeasts_26 : decode cX4_readBeasts 26 = .ok (.ifCond .ne 5, 3) := by decide +kernel
theorem dX4_readBeasts_29 : decode cX4_readBeasts 29 = .ok (.iconst 0, 1) := by decide +kernel
theorem dX4_readBeasts_30 : decode cX4_readBeasts 30 = .ok (.ireturn, 1) := by decide +kernel
theorem dX4_readBeasts_31 : decode cX4_readBeasts 31 = .ok (.aload_n 0, 1) := by decide +kernel
theorem dX4_readBeasts_32 : decode cX4_readBeasts 32 = .ok (.invokevirtual 37, 3) := by decide +kernel
theorem dX4_readBeasts_35 : decode cX4_readBeasts 35 = .ok (.iinc 2 1, 3) := by decide +kernel
theorem dX4_readBeasts_38 : decode cX4_readBeasts 38 = .ok (.goto (-36), 3) := by decide +kernel
theorem dX4_readBeasts_41 : decode cX4_readBeasts 41 = .ok (.aload_n 0, 1) := by decide +kernel
theorem dX4_readBeasts_42 : decode cX4_readBeasts 42 = .ok (.ldc 98, 2) := by decide +kernel
theorem dX4_readBeasts_44 : decode cX4_readBeasts 44 = .ok (.invokevirtual 52, 3) := by decide +kernel
theorem dX4_readBeasts_47 : decode cX4_readBeasts 47 = .ok (.ifCond .eq 9, 3) := by decide +kernel
theorem dX4_readBeasts_50 : decode cX4_readBeasts 50 = .ok (.aload_n 0, 1) := by decide +kernel
theorem dX4_readBeasts_51 : decode cX4_readBeasts 51 = .ok (.iconst 3, 1) := by decide +kernel
theorem dX4_readBeasts_52 : decode cX4_readBeasts 52 = .ok (.invokevirtual 56, 3) := by decide +kernel
theorem dX4_readBeasts_55 : decode cX4_readBeasts 55 = .ok (.ireturn, 1) := by decide +kernel
theorem dX4_readBeasts_56 : decode cX4_readBeasts 56 = .ok (.aload_n 0, 1) := by decide +kernel
theorem dX4_readBeasts_57 : decode cX4_readBeasts 57 = .ok (.getfield 25, 3) := by decide +kernel
theorem dX4_readBeasts_60 : decode cX4_readBeasts 60 = .ok (.ifCond .eq 11, 3) := by decide +kernel
theorem dX4_readBeasts_63 : decode cX4_readBeasts 63 = .ok (.aload_n 0, 1) := by decide +kernel
theorem dX4_readBeasts_64 : decode cX4_readBeasts 64 = .ok (.iconst 1, 1) := by decide +kernel
theorem dX4_readBeasts_65 : decode cX4_readBeasts 65 = .ok (.invokevirtual 56, 3) := by decide +kernel
theorem dX4_readBeasts_68 : decode cX4_readBeasts 68 = .ok (.ifCond .eq 7, 3) := by decide +kernel
theorem dX4_readBeasts_71 : decode cX4_readBeasts 71 = .ok (.iconst 1, 1) := by decide +kernel
theorem dX4_readBeasts_72 : decode cX4_readBeasts 72 = .ok (.goto 4, 3) := by decide +kernel
theorem dX4_readBeasts_75 : decode cX4_readBeasts 75 = .ok (.iconst 0, 1) := by decide +kernel
theorem dX4_readBeasts_76 : decode cX4_readBeasts 76 = .ok (.ireturn, 1) := by decide +kernel
theorem dX4_readBeast_0 : decode cX4_readBeast 0 = .ok (.aload_n 1, 1) := by decide +kernel
theorem dX4_readBeast_1 : decode cX4_readBeast 1 = .ok (.getfield 103, 3) := by decide +kernel
theorem dX4_readBeast_4 : decode cX4_readBeast 4 = .ok (.istore_n 2, 1) := by decide +kernel
theorem dX4_readBeast_5 : decode cX4_readBeast 5 = .ok (.aload_n 0, 1) := by decide +kernel
theorem dX4_readBeast_6 : decode cX4_readBeast 6 = .ok (.invokevirtual 106, 3) := by decide +kernel
theorem dX4_readBeast_9 : decode cX4_readBeast 9 = .ok (.istore_n 3, 1) := by decide +kernel
theorem dX4_readBeast_10 : decode cX4_readBeast 10 = .ok (.iload_n 3, 1) := by decide +kernel
theorem dX4_readBeast_11 : decode cX4_readBeast 11 = .ok (.ifCond .lt 9, 3) := by decide +kernel
theorem dX4_readBeast_14 : decode cX4_readBeast 14 = .ok (.iload_n 2, 1) := by decide +kernel
theorem dX4_readBeast_15 : decode cX4_readBeast 15 = .ok (.bipush 8, 2) := by decide +kernel
theorem dX4_readBeast_17 : decode cX4_readBeast 17 = .ok (.if_icmp .lt 9, 3) := by decide +kernel
theorem dX4_readBeast_20 : decode cX4_readBeast 20 = .ok (.aload_n 0, 1) := by decide +kernel
theorem dX4_readBeast_21 : decode cX4_readBeast 21 = .ok (.iconst 1, 1) := by decide +kernel
theorem dX4_readBeast_22 : decode cX4_readBeast 22 = .ok (.invokevirtual 56, 3) := by decide +kernel
theorem dX4_readBeast_25 : decode cX4_readBeast 25 = .ok (.ireturn, 1) := by decide +kernel
theorem dX4_readBeast_26 : decode cX4_readBeast 26 = .ok (.aload_n 1, 1) := by decide +kernel
theorem dX4_readBeast_27 : decode cX4_readBeast 27 = .ok (.getfield 109, 3) := by decide +kernel
theorem dX4_readBeast_30 : decode cX4_readBeast 30 = .ok (.iload_n 2, 1) := by decide +kernel
theorem dX4_readBeast_31 : decode cX4_readBeast 31 = .ok (.iload_n 3, 1) := by decide +kernel
theorem dX4_readBeast_32 : decode cX4_readBeast 32 = .ok (.iastore, 1) := by decide +kernel
theorem dX4_readBeast_33 : decode cX4_readBeast 33 = .ok (.aload_n 0, 1) := by decide +kernel
theorem dX4_readBeast_34 : decode cX4_readBeast 34 = .ok (.invokevirtual 37, 3) := by decide +kernel
theorem dX4_readBeast_37 : decode cX4_readBeast 37 = .ok (.aload_n 0, 1) := by decide +kernel
theorem dX4_readBeast_38 : decode cX4_readBeast 38 = .ok (.iconst 1, 1) := by decide +kernel
theorem dX4_readBeast_39 : decode cX4_readBeast 39 = .ok (.bipush 99, 2) := by decide +kernel
theorem dX4_readBeast_41 : decode cX4_readBeast 41 = .ok (.invokevirtual 60, 3) := by decide +kernel
theorem dX4_readBeast_44 : decode cX4_readBeast 44 = .ok (.ifCond .ne 5, 3) := by decide +kernel
theorem dX4_readBeast_47 : decode cX4_readBeast 47 = .ok (.iconst 0, 1) := by decide +kernel
theorem dX4_readBeast_48 : decode cX4_readBeast 48 = .ok (.ireturn, 1) := by decide +kernel
theorem dX4_readBeast_49 : decode cX4_readBeast 49 = .ok (.aload_n 1, 1) := by decide +kernel
theorem dX4_readBeast_50 : decode cX4_readBeast 50 = .ok (.getfield 111, 3) := by decide +kernel
theorem dX4_readBeast_53 : decode cX4_readBeast 53 = .ok (.iload_n 2, 1) := by decide +kernel
theorem dX4_readBeast_54 : decode cX4_readBeast 54 = .ok (.aload_n 0, 1) := by decide +kernel
theorem dX4_readBeast_55 : decode cX4_readBeast 55 = .ok (.getfield 28, 3) := by decide +kernel
theorem dX4_readBeast_58 : decode cX4_readBeast 58 = .ok (.iastore, 1) := by decide +kernel
theorem dX4_readBeast_59 : decode cX4_readBeast 59 = .ok (.aload_n 0, 1) := by decide +kernel
theorem dX4_readBeast_60 : decode cX4_readBeast 60 = .ok (.invokevirtual 37, 3) := by decide +kernel
theorem dX4_readBeast_63 : decode cX4_readBeast 63 = .ok (.aload_n 1, 1) := by decide +kernel
theorem dX4_readBeast_64 : decode cX4_readBeast 64 = .ok (.dup, 1) := by decide +kernel
theorem dX4_readBeast_65 : decode cX4_readBeast 65 = .ok (.getfield 103, 3) := by decide +kernel
theorem dX4_readBeast_68 : decode cX4_readBeast 68 = .ok (.iconst 1, 1) := by decide +kernel
theorem dX4_readBeast_69 : decode cX4_readBeast 69 = .ok (.iadd, 1) := by decide +kernel
theorem dX4_readBeast_70 : decode cX4_readBeast 70 = .ok (.putfield 103, 3) := by decide +kernel
theorem dX4_readBeast_73 : decode cX4_readBeast 73 = .ok (.aload_n 0, 1) := by decide +kernel
theorem dX4_readBeast_74 : decode cX4_readBeast 74 = .ok (.invokevirtual 67, 3) := by decide +kernel
theorem dX4_readBeast_77 : decode cX4_readBeast 77 = .ok (.ireturn, 1) := by decide +kernel
theorem dX4_isSign_0 : decode cX4_isSign 0 = .ok (.aload_n 0, 1) := by decide +kernel
theorem dX4_isSign_1 : decode cX4_isSign 1 = .ok (.getfield 25, 3) := by decide +kernel
theorem dX4_isSign_4 : decode cX4_isSign 4 = .ok (.iconst 3, 1) := by decide +kernel
theorem dX4_isSign_5 : decode cX4_isSign 5 = .ok (.if_icmp .eq 11, 3) := by decide +kernel
theorem dX4_isSign_8 : decode cX4_isSign 8 = .ok (.aload_n 0, 1) := by decide +kernel
theorem dX4_isSign_9 : decode cX4_isSign 9 = .ok (.iconst 1, 1) := by decide +kernel
theorem dX4_isSign_10 : decode cX4_isSign 10 = .ok (.invokevirtual 56, 3) := by decide +kernel
theorem dX4_isSign_13 : decode cX4_isSign 13 = .ok (.ifCond .eq 7, 3) := by decide +kernel
theorem dX4_isSign_16 : decode cX4_isSign 16 = .ok (.iconst 1, 1) := by decide +kernel
theorem dX4_isSign_17 : decode cX4_isSign 17 = .ok (.goto 4, 3) := by decide +kernel
theorem dX4_isSign_20 : decode cX4_isSign 20 = .ok (.iconst 0, 1) := by decide +kernel
theorem dX4_isSign_21 : decode cX4_isSign 21 = .ok (.ireturn, 1) := by decide +kernel
theorem dX4_hurdleSort_0 : decode cX4_hurdleSort 0 = .ok (.aload_n 0, 1) := by decide +kernel
theorem dX4_hurdleSort_1 : decode cX4_hurdleSort 1 = .ok (.ldc 114, 2) := by decide +kernel
theorem dX4_hurdleSort_3 : decode cX4_hurdleSort 3 = .ok (.invokevirtual 52, 3) := by decide +kernel
theorem dX4_hurdleSort_6 : decode cX4_hurdleSort 6 = .ok (.ifCond .eq 5, 3) := by decide +kernel
theorem dX4_hurdleSort_9 : decode cX4_hurdleSort 9 = .ok (.iconst 0, 1) := by decide +kernel
theorem dX4_hurdleSort_10 : decode cX4_hurdleSort 10 = .ok (.ireturn, 1) := by decide +kernel
theorem dX4_hurdleSort_11 : decode cX4_hurdleSort 11 = .ok (.aload_n 0, 1) := by decide +kernel
theorem dX4_hurdleSort_12 : decode cX4_hurdleSort 12 = .ok (.ldc 116, 2) := by decide +kernel
theorem dX4_hurdleSort_14 : decode cX4_hurdleSort 14 = .ok (.invokevirtual 52, 3) := by decide +kernel
theorem dX4_hurdleSort_17 : decode cX4_hurdleSort 17 = .ok (.ifCond .eq 5, 3) := by decide +kernel
theorem dX4_hurdleSort_20 : decode cX4_hurdleSort 20 = .ok (.iconst 1, 1) := by decide +kernel
theorem dX4_hurdleSort_21 : decode cX4_hurdleSort 21 = .ok (.ireturn, 1) := by decide +kernel
theorem dX4_hurdleSort_22 : decode cX4_hurdleSort 22 = .ok (.aload_n 0, 1) := by decide +kernel
theorem dX4_hurdleSort_23 : decode cX4_hurdleSort 23 = .ok (.ldc 118, 2) := by decide +kernel
theorem dX4_hurdleSort_25 : decode cX4_hurdleSort 25 = .ok (.invokevirtual 52, 3) := by decide +kernel
theorem dX4_hurdleSort_28 : decode cX4_hurdleSort 28 = .ok (.ifCond .eq 7, 3) := by decide +kernel
theorem dX4_hurdleSort_31 : decode cX4_hurdleSort 31 = .ok (.iconst 2, 1) := by decide +kernel
theorem dX4_hurdleSort_32 : decode cX4_hurdleSort 32 = .ok (.goto 4, 3) := by decide +kernel
theorem dX4_hurdleSort_35 : decode cX4_hurdleSort 35 = .ok (.iconst (-1), 1) := by decide +kernel
theorem dX4_hurdleSort_36 : decode cX4_hurdleSort 36 = .ok (.ireturn, 1) := by decide +kernel
theorem dX4_beastKind_0 : decode cX4_beastKind 0 = .ok (.aload_n 0, 1) := by decide +kernel
theorem dX4_beastKind_1 : decode cX4_beastKind 1 = .ok (.ldc 120, 2) := by decide +kernel
theorem dX4_beastKind_3 : decode cX4_beastKind 3 = .ok (.invokevirtual 52, 3) := by decide +kernel
theorem dX4_beastKind_6 : decode cX4_beastKind 6 = .ok (.ifCond .eq 5, 3) := by decide +kernel
theorem dX4_beastKind_9 : decode cX4_beastKind 9 = .ok (.iconst 1, 1) := by decide +kernel
theorem dX4_beastKind_10 : decode cX4_beastKind 10 = .ok (.ireturn, 1) := by decide +kernel
theorem dX4_beastKind_11 : decode cX4_beastKind 11 = .ok (.aload_n 0, 1) := by decide +kernel
theorem dX4_beastKind_12 : decode cX4_beastKind 12 = .ok (.ldc 122, 2) := by decide +kernel
theorem dX4_beastKind_14 : decode cX4_beastKind 14 = .ok (.invokevirtual 52, 3) := by decide +kernel
theorem dX4_beastKind_17 : decode cX4_beastKind 17 = .ok (.ifCond .eq 5, 3) := by decide +kernel
theorem dX4_beastKind_20 : decode cX4_beastKind 20 = .ok (.iconst 2, 1) := by decide +kernel
theorem dX4_beastKind_21 : decode cX4_beastKind 21 = .ok (.ireturn, 1) := by decide +kernel
theorem dX4_beastKind_22 : decode cX4_beastKind 22 = .ok (.aload_n 0, 1) := by decide +kernel
theorem dX4_beastKind_23 : decode cX4_beastKind 23 = .ok (.ldc 124, 2) := by decide +kernel
theorem dX4_beastKind_25 : decode cX4_beastKind 25 = .ok (.invokevirtual 52, 3) := by decide +kernel
theorem dX4_beastKind_28 : decode cX4_beastKind 28 = .ok (.ifCond .eq 5, 3) := by decide +kernel
theorem dX4_beastKind_31 : decode cX4_beastKind 31 = .ok (.iconst 3, 1) := by decide +kernel
theorem dX4_beastKind_32 : decode cX4_beastKind 32 = .ok (.ireturn, 1) := by decide +kernel
theorem dX4_beastKind_33 : decode cX4_beastKind 33 = .ok (.aload_n 0, 1) := by decide +kernel
theorem dX4_beastKind_34 : decode cX4_beastKind 34 = .ok (.ldc 126, 2) := by decide +kernel
theorem dX4_beastKind_36 : decode cX4_beastKind 36 = .ok (.invokevirtual 52, 3) := by decide +kernel
theorem dX4_beastKind_39 : decode cX4_beastKind 39 = .ok (.ifCond .eq 5, 3) := by decide +kernel
theorem dX4_beastKind_42 : decode cX4_beastKind 42 = .ok (.iconst 4, 1) := by decide +kernel
theorem dX4_beastKind_43 : decode cX4_beastKind 43 = .ok (.ireturn, 1) := by decide +kernel
theorem dX4_beastKind_44 : decode cX4_beastKind 44 = .ok (.aload_n 0, 1) := by decide +kernel
theorem dX4_beastKind_45 : decode cX4_beastKind 45 = .ok (.ldc 128, 2) := by decide +kernel
theorem dX4_beastKind_47 : decode cX4_beastKind 47 = .ok (.invokevirtual 52, 3) := by decide +kernel
theorem dX4_beastKind_50 : decode cX4_beastKind 50 = .ok (.ifCond .eq 7, 3) := by decide +kernel
theorem dX4_beastKind_53 : decode cX4_beastKind 53 = .ok (.iconst 5, 1) := by decide +kernel
theorem dX4_beastKind_54 : decode cX4_beastKind 54 = .ok (.goto 4, 3) := by decide +kernel
theorem dX4_beastKind_57 : decode cX4_beastKind 57 = .ok (.iconst (-1), 1) := by decide +kernel
theorem dX4_beastKind_58 : decode cX4_beastKind 58 = .ok (.ireturn, 1) := by decide +kernel
theorem dX4_isNumber_0 : decode cX4_isNumber 0 = .ok (.aload_n 0, 1) := by decide +kernel
theorem dX4_isNumber_1 : decode cX4_isNumber 1 = .ok (.getfield 25, 3) := by decide +kernel
theorem dX4_isNumber_4 : decode cX4_isNumber 4 = .ok (.iconst 2, 1) := by decide +kernel
theorem dX4_isNumber_5 : decode cX4_isNumber 5 = .ok (.if_icmp .eq 9, 3) := by decide +kernel
theorem dX4_isNumber_8 : decode cX4_isNumber 8 = .ok (.aload_n 0, 1) := by decide +kernel
theorem dX4_isNumber_9 : decode cX4_isNumber 9 = .ok (.iconst 1, 1) := by decide +kernel
theorem dX4_isNumber_10 : decode cX4_isNumber 10 = .ok (.invokevirtual 56, 3) := by decide +kernel
theorem dX4_isNumber_13 : decode cX4_isNumber 13 = .ok (.ireturn, 1) := by decide +kernel
theorem dX4_isNumber_14 : decode cX4_isNumber 14 = .ok (.aload_n 0, 1) := by decide +kernel
theorem dX4_isNumber_15 : decode cX4_isNumber 15 = .ok (.getfield 28, 3) := by decide +kernel
theorem dX4_isNumber_18 : decode cX4_isNumber 18 = .ok (.iload_n 1, 1) := by decide +kernel
theorem dX4_isNumber_19 : decode cX4_isNumber 19 = .ok (.if_icmp .lt 11, 3) := by decide +kernel
theorem dX4_isNumber_22 : decode cX4_isNumber 22 = .ok (.aload_n 0, 1) := by decide +kernel
theorem dX4_isNumber_23 : decode cX4_isNumber 23 = .ok (.getfield 28, 3) := by decide +kernel
theorem dX4_isNumber_26 : decode cX4_isNumber 26 = .ok (.iload_n 2, 1) := by decide +kernel
theorem dX4_isNumber_27 : decode cX4_isNumber 27 = .ok (.if_icmp .le 11, 3) := by decide +kernel
theorem dX4_isNumber_30 : decode cX4_isNumber 30 = .ok (.aload_n 0, 1) := by decide +kernel
theorem dX4_isNumber_31 : decode cX4_isNumber 31 = .ok (.iconst 2, 1) := by decide +kernel
theorem dX4_isNumber_32 : decode cX4_isNumber 32 = .ok (.invokevirtual 56, 3) := by decide +kernel
theorem dX4_isNumber_35 : decode cX4_isNumber 35 = .ok (.ifCond .eq 7, 3) := by decide +kernel
theorem dX4_isNumber_38 : decode cX4_isNumber 38 = .ok (.iconst 1, 1) := by decide +kernel
theorem dX4_isNumber_39 : decode cX4_isNumber 39 = .ok (.goto 4, 3) := by decide +kernel
theorem dX4_isNumber_42 : decode cX4_isNumber 42 = .ok (.iconst 0, 1) := by decide +kernel
theorem dX4_isNumber_43 : decode cX4_isNumber 43 = .ok (.ireturn, 1) := by decide +kernel
theorem dX4_isWay_0 : decode cX4_isWay 0 = .ok (.aload_n 0, 1) := by decide +kernel
theorem dX4_isWay_1 : decode cX4_isWay 1 = .ok (.getfield 25, 3) := by decide +kernel
theorem dX4_isWay_4 : decode cX4_isWay 4 = .ok (.iconst 2, 1) := by decide +kernel
theorem dX4_isWay_5 : decode cX4_isWay 5 = .ok (.if_icmp .eq 9, 3) := by decide +kernel
theorem dX4_isWay_8 : decode cX4_isWay 8 = .ok (.aload_n 0, 1) := by decide +kernel
theorem dX4_isWay_9 : decode cX4_isWay 9 = .ok (.iconst 1, 1) := by decide +kernel
theorem dX4_isWay_10 : decode cX4_isWay 10 = .ok (.invokevirtual 56, 3) := by decide +kernel
theorem dX4_isWay_13 : decode cX4_isWay 13 = .ok (.ireturn, 1) := by decide +kernel
theorem dX4_isWay_14 : decode cX4_isWay 14 = .ok (.aload_n 1, 1) := by decide +kernel
theorem dX4_isWay_15 : decode cX4_isWay 15 = .ok (.aload_n 0, 1) := by decide +kernel
theorem dX4_isWay_16 : decode cX4_isWay 16 = .ok (.getfield 28, 3) := by decide +kernel
theorem dX4_isWay_19 : decode cX4_isWay 19 = .ok (.invokevirtual 130, 3) := by decide +kernel
theorem dX4_isWay_22 : decode cX4_isWay 22 = .ok (.ifCond .ne 11, 3) := by decide +kernel
theorem dX4_isWay_25 : decode cX4_isWay 25 = .ok (.aload_n 0, 1) := by decide +kernel
theorem dX4_isWay_26 : decode cX4_isWay 26 = .ok (.iconst 2, 1) := by decide +kernel
theorem dX4_isWay_27 : decode cX4_isWay 27 = .ok (.invokevirtual 56, 3) := by decide +kernel
theorem dX4_isWay_30 : decode cX4_isWay 30 = .ok (.ifCond .eq 7, 3) := by decide +kernel
theorem dX4_isWay_33 : decode cX4_isWay 33 = .ok (.iconst 1, 1) := by decide +kernel
theorem dX4_isWay_34 : decode cX4_isWay 34 = .ok (.goto 4, 3) := by decide +kernel
theorem dX4_isWay_37 : decode cX4_isWay 37 = .ok (.iconst 0, 1) := by decide +kernel
theorem dX4_isWay_38 : decode cX4_isWay 38 = .ok (.ireturn, 1) := by decide +kernel
theorem dX4_faulty_0 : decode cX4_faulty 0 = .ok (.aload_n 0, 1) := by decide +kernel
theorem dX4_faulty_1 : decode cX4_faulty 1 = .ok (.iload_n 1, 1) := by decide +kernel
theorem dX4_faulty_2 : decode cX4_faulty 2 = .ok (.putfield 31, 3) := by decide +kernel
theorem dX4_faulty_5 : decode cX4_faulty 5 = .ok (.iconst 0, 1) := by decide +kernel
theorem dX4_faulty_6 : decode cX4_faulty 6 = .ok (.ireturn, 1) := by decide +kernel
theorem dX4_isWord_0 : decode cX4_isWord 0 = .ok (.aload_n 0, 1) := by decide +kernel
theorem dX4_isWord_1 : decode cX4_isWord 1 = .ok (.getfield 25, 3) := by decide +kernel
theorem dX4_isWord_4 : decode cX4_isWord 4 = .ok (.iconst 1, 1) := by decide +kernel
theorem dX4_isWord_5 : decode cX4_isWord 5 = .ok (.if_icmp .ne 19, 3) := by decide +kernel
theorem dX4_isWord_8 : decode cX4_isWord 8 = .ok (.aload_n 0, 1) := by decide +kernel
theorem dX4_isWord_9 : decode cX4_isWord 9 = .ok (.getfield 22, 3) := by decide +kernel
theorem dX4_isWord_12 : decode cX4_isWord 12 = .ok (.aload_n 0, 1) := by decide +kernel
theorem dX4_isWord_13 : decode cX4_isWord 13 = .ok (.getfield 19, 3) := by decide +kernel
theorem dX4_isWord_16 : decode cX4_isWord 16 = .ok (.isub, 1) := by decide +kernel
theorem dX4_isWord_17 : decode cX4_isWord 17 = .ok (.aload_n 1, 1) := by decide +kernel
theorem dX4_isWord_18 : decode cX4_isWord 18 = .ok (.invokevirtual 132, 3) := by decide +kernel
theorem dX4_isWord_21 : decode cX4_isWord 21 = .ok (.if_icmp .eq 5, 3) := by decide +kernel
theorem dX4_isWord_24 : decode cX4_isWord 24 = .ok (.iconst 0, 1) := by decide +kernel
theorem dX4_isWord_25 : decode cX4_isWord 25 = .ok (.ireturn, 1) := by decide +kernel
theorem dX4_isWord_26 : decode cX4_isWord 26 = .ok (.iconst 0, 1) := by decide +kernel
theorem dX4_isWord_27 : decode cX4_isWord 27 = .ok (.istore_n 2, 1) := by decide +kernel
theorem dX4_isWord_28 : decode cX4_isWord 28 = .ok (.iload_n 2, 1) := by decide +kernel
theorem dX4_isWord_29 : decode cX4_isWord 29 = .ok (.aload_n 1, 1) := by decide +kernel
theorem dX4_isWord_30 : decode cX4_isWord 30 = .ok (.invokevirtual 132, 3) := by decide +kernel
theorem dX4_isWord_33 : decode cX4_isWord 33 = .ok (.if_icmp .ge 29, 3) := by decide +kernel
theorem dX4_isWord_36 : decode cX4_isWord 36 = .ok (.aload_n 0, 1) := by decide +kernel
theorem dX4_isWord_37 : decode cX4_isWord 37 = .ok (.aload_n 0, 1) := by decide +kernel
theorem dX4_isWord_38 : decode cX4_isWord 38 = .ok (.getfield 19, 3) := by decide +kernel
theorem dX4_isWord_41 : decode cX4_isWord 41 = .ok (.iload_n 2, 1) := by decide +kernel
theorem dX4_isWord_42 : decode cX4_isWord 42 = .ok (.iadd, 1) := by decide +kernel
theorem dX4_isWord_43 : decode cX4_isWord 43 = .ok (.invokevirtual 136, 3) := by decide +kernel
theorem dX4_isWord_46 : decode cX4_isWord 46 = .ok (.aload_n 1, 1) := by decide +kernel
theorem dX4_isWord_47 : decode cX4_isWord 47 = .ok (.iload_n 2, 1) := by decide +kernel
theorem dX4_isWord_48 : decode cX4_isWord 48 = .ok (.invokevirtual 140, 3) := by decide +kernel
theorem dX4_isWord_51 : decode cX4_isWord 51 = .ok (.if_icmp .eq 5, 3) := by decide +kernel
theorem dX4_isWord_54 : decode cX4_isWord 54 = .ok (.iconst 0, 1) := by decide +kernel
theorem dX4_isWord_55 : decode cX4_isWord 55 = .ok (.ireturn, 1) := by decide +kernel
theorem dX4_isWord_56 : decode cX4_isWord 56 = .ok (.iinc 2 1, 3) := by decide +kernel
theorem dX4_isWord_59 : decode cX4_isWord 59 = .ok (.goto (-31), 3) := by decide +kernel
theorem dX4_isWord_62 : decode cX4_isWord 62 = .ok (.iconst 1, 1) := by decide +kernel
theorem dX4_isWord_63 : decode cX4_isWord 63 = .ok (.ireturn, 1) := by decide +kernel
theorem dX4_next_0 : decode cX4_next 0 = .ok (.aload_n 0, 1) := by decide +kernel
theorem dX4_next_1 : decode cX4_next 1 = .ok (.getfield 22, 3) := by decide +kernel
theorem dX4_next_4 : decode cX4_next 4 = .ok (.aload_n 0, 1) := by decide +kernel
theorem dX4_next_5 : decode cX4_next 5 = .ok (.getfield 15, 3) := by decide +kernel
theorem dX4_next_8 : decode cX4_next 8 = .ok (.if_icmp .ge 30, 3) := by decide +kernel
theorem dX4_next_11 : decode cX4_next 11 = .ok (.aload_n 0, 1) := by decide +kernel
theorem dX4_next_12 : decode cX4_next 12 = .ok (.aload_n 0, 1) := by decide +kernel
theorem dX4_next_13 : decode cX4_next 13 = .ok (.getfield 22, 3) := by decide +kernel
theorem dX4_next_16 : decode cX4_next 16 = .ok (.invokevirtual 136, 3) := by decide +kernel
theorem dX4_next_19 : decode cX4_next 19 = .ok (.invokestatic 144, 3) := by decide +kernel
theorem dX4_next_22 : decode cX4_next 22 = .ok (.ifCond .eq 16, 3) := by decide +kernel
theorem dX4_next_25 : decode cX4_next 25 = .ok (.aload_n 0, 1) := by decide +kernel
theorem dX4_next_26 : decode cX4_next 26 = .ok (.dup, 1) := by decide +kernel
theorem dX4_next_27 : decode cX4_next 27 = .ok (.getfield 22, 3) := by decide +kernel
theorem dX4_next_30 : decode cX4_next 30 = .ok (.iconst 1, 1) := by decide +kernel
theorem dX4_next_31 : decode cX4_next 31 = .ok (.iadd, 1) := by decide +kernel
theorem dX4_next_32 : decode cX4_next 32 = .ok (.putfield 22, 3) := by decide +kernel
theorem dX4_next_35 : decode cX4_next 35 = .ok (.goto (-35), 3) := by decide +kernel
theorem dX4_next_38 : decode cX4_next 38 = .ok (.aload_n 0, 1) := by decide +kernel
theorem dX4_next_39 : decode cX4_next 39 = .ok (.aload_n 0, 1) := by decide +kernel
theorem dX4_next_40 : decode cX4_next 40 = .ok (.getfield 22, 3) := by decide +kernel
theorem dX4_next_43 : decode cX4_next 43 = .ok (.putfield 19, 3) := by decide +kernel
theorem dX4_next_46 : decode cX4_next 46 = .ok (.aload_n 0, 1) := by decide +kernel
theorem dX4_next_47 : decode cX4_next 47 = .ok (.getfield 22, 3) := by decide +kernel
theorem dX4_next_50 : decode cX4_next 50 = .ok (.aload_n 0, 1) := by decide +kernel
theorem dX4_next_51 : decode cX4_next 51 = .ok (.getfield 15, 3) := by decide +kernel
theorem dX4_next_54 : decode cX4_next 54 = .ok (.if_icmp .lt 11, 3) := by decide +kernel
theorem dX4_next_57 : decode cX4_next 57 = .ok (.aload_n 0, 1) := by decide +kernel
theorem dX4_next_58 : decode cX4_next 58 = .ok (.iconst 0, 1) := by decide +kernel
theorem dX4_next_59 : decode cX4_next 59 = .ok (.putfield 25, 3) := by decide +kernel
theorem dX4_next_62 : decode cX4_next 62 = .ok (.goto 113, 3) := by decide +kernel
theorem dX4_next_65 : decode cX4_next 65 = .ok (.aload_n 0, 1) := by decide +kernel
theorem dX4_next_66 : decode cX4_next 66 = .ok (.aload_n 0, 1) := by decide +kernel
theorem dX4_next_67 : decode cX4_next 67 = .ok (.getfield 22, 3) := by decide +kernel
theorem dX4_next_70 : decode cX4_next 70 = .ok (.invokevirtual 136, 3) := by decide +kernel
theorem dX4_next_73 : decode cX4_next 73 = .ok (.invokestatic 147, 3) := by decide +kernel
theorem dX4_next_76 : decode cX4_next 76 = .ok (.ifCond .eq 46, 3) := by decide +kernel
theorem dX4_next_79 : decode cX4_next 79 = .ok (.aload_n 0, 1) := by decide +kernel
theorem dX4_next_80 : decode cX4_next 80 = .ok (.iconst 1, 1) := by decide +kernel
theorem dX4_next_81 : decode cX4_next 81 = .ok (.putfield 25, 3) := by decide +kernel
theorem dX4_next_84 : decode cX4_next 84 = .ok (.aload_n 0, 1) := by decide +kernel
theorem dX4_next_85 : decode cX4_next 85 = .ok (.getfield 22, 3) := by decide +kernel
theorem dX4_next_88 : decode cX4_next 88 = .ok (.aload_n 0, 1) := by decide +kernel
theorem dX4_next_89 : decode cX4_next 89 = .ok (.getfield 15, 3) := by decide +kernel
theorem dX4_next_92 : decode cX4_next 92 = .ok (.if_icmp .ge 83, 3) := by decide +kernel
theorem dX4_next_95 : decode cX4_next 95 = .ok (.aload_n 0, 1) := by decide +kernel
theorem dX4_next_96 : decode cX4_next 96 = .ok (.aload_n 0, 1) := by decide +kernel
theorem dX4_next_97 : decode cX4_next 97 = .ok (.getfield 22, 3) := by decide +kernel
theorem dX4_next_100 : decode cX4_next 100 = .ok (.invokevirtual 136, 3) := by decide +kernel
theorem dX4_next_103 : decode cX4_next 103 = .ok (.invokestatic 147, 3) := by decide +kernel
theorem dX4_next_106 : decode cX4_next 106 = .ok (.ifCond .eq 69, 3) := by decide +kernel
theorem dX4_next_109 : decode cX4_next 109 = .ok (.aload_n 0, 1) := by decide +kernel
theorem dX4_next_110 : decode cX4_next 110 = .ok (.dup, 1) := by decide +kernel
theorem dX4_next_111 : decode cX4_next 111 = .ok (.getfield 22, 3) := by decide +kernel
theorem dX4_next_114 : decode cX4_next 114 = .ok (.iconst 1, 1) := by decide +kernel
theorem dX4_next_115 : decode cX4_next 115 = .ok (.iadd, 1) := by decide +kernel
theorem dX4_next_116 : decode cX4_next 116 = .ok (.putfield 22, 3) := by decide +kernel
theorem dX4_next_119 : decode cX4_next 119 = .ok (.goto (-35), 3) := by decide +kernel
theorem dX4_next_122 : decode cX4_next 122 = .ok (.aload_n 0, 1) := by decide +kernel
theorem dX4_next_123 : decode cX4_next 123 = .ok (.aload_n 0, 1) := by decide +kernel
theorem dX4_next_124 : decode cX4_next 124 = .ok (.getfield 22, 3) := by decide +kernel
theorem dX4_next_127 : decode cX4_next 127 = .ok (.invokevirtual 136, 3) := by decide +kernel
theorem dX4_next_130 : decode cX4_next 130 = .ok (.invokestatic 150, 3) := by decide +kernel
theorem dX4_next_133 : decode cX4_next 133 = .ok (.ifCond .eq 10, 3) := by decide +kernel
theorem dX4_next_136 : decode cX4_next 136 = .ok (.aload_n 0, 1) := by decide +kernel
theorem dX4_next_137 : decode cX4_next 137 = .ok (.invokevirtual 153, 3) := by decide +kernel
theorem dX4_next_140 : decode cX4_next 140 = .ok (.goto 35, 3) := by decide +kernel
theorem dX4_next_143 : decode cX4_next 143 = .ok (.aload_n 0, 1) := by decide +kernel
theorem dX4_next_144 : decode cX4_next 144 = .ok (.aload_n 0, 1) := by decide +kernel
theorem dX4_next_145 : decode cX4_next 145 = .ok (.aload_n 0, 1) := by decide +kernel
theorem dX4_next_146 : decode cX4_next 146 = .ok (.getfield 22, 3) := by decide +kernel
theorem dX4_next_149 : decode cX4_next 149 = .ok (.invokevirtual 136, 3) := by decide +kernel
theorem dX4_next_152 : decode cX4_next 152 = .ok (.bipush 59, 2) := by decide +kernel
theorem dX4_next_154 : decode cX4_next 154 = .ok (.if_icmp .ne 7, 3) := by decide +kernel
theorem dX4_next_157 : decode cX4_next 157 = .ok (.iconst 3, 1) := by decide +kernel
theorem dX4_next_158 : decode cX4_next 158 = .ok (.goto 4, 3) := by decide +kernel
theorem dX4_next_161 : decode cX4_next 161 = .ok (.iconst 4, 1) := by decide +kernel
theorem dX4_next_162 : decode cX4_next 162 = .ok (.putfield 25, 3) := by decide +kernel
theorem dX4_next_165 : decode cX4_next 165 = .ok (.aload_n 0, 1) := by decide +kernel
theorem dX4_next_166 : decode cX4_next 166 = .ok (.dup, 1) := by decide +kernel
theorem dX4_next_167 : decode cX4_next 167 = .ok (.getfield 22, 3) := by decide +kernel
theorem dX4_next_170 : decode cX4_next 170 = .ok (.iconst 1, 1) := by decide +kernel
theorem dX4_next_171 : decode cX4_next 171 = .ok (.iadd, 1) := by decide +kernel
theorem dX4_next_172 : decode cX4_next 172 = .ok (.putfield 22, 3) := by decide +kernel
theorem dX4_next_175 : decode cX4_next 175 = .ok (.return_, 1) := by decide +kernel
theorem dX4_nextNumber_0 : decode cX4_nextNumber 0 = .ok (.aload_n 0, 1) := by decide +kernel
theorem dX4_nextNumber_1 : decode cX4_nextNumber 1 = .ok (.iconst 0, 1) := by decide +kernel
theorem dX4_nextNumber_2 : decode cX4_nextNumber 2 = .ok (.putfield 28, 3) := by decide +kernel
theorem dX4_nextNumber_5 : decode cX4_nextNumber 5 = .ok (.aload_n 0, 1) := by decide +kernel
theorem dX4_nextNumber_6 : decode cX4_nextNumber 6 = .ok (.getfield 22, 3) := by decide +kernel
theorem dX4_nextNumber_9 : decode cX4_nextNumber 9 = .ok (.aload_n 0, 1) := by decide +kernel
theorem dX4_nextNumber_10 : decode cX4_nextNumber 10 = .ok (.getfield 15, 3) := by decide +kernel
theorem dX4_nextNumber_13 : decode cX4_nextNumber 13 = .ok (.if_icmp .ge 66, 3) := by decide +kernel
theorem dX4_nextNumber_16 : decode cX4_nextNumber 16 = .ok (.aload_n 0, 1) := by decide +kernel
theorem dX4_nextNumber_17 : decode cX4_nextNumber 17 = .ok (.aload_n 0, 1) := by decide +kernel
theorem dX4_nextNumber_18 : decode cX4_nextNumber 18 = .ok (.getfield 22, 3) := by decide +kernel
theorem dX4_nextNumber_21 : decode cX4_nextNumber 21 = .ok (.invokevirtual 136, 3) := by decide +kernel
theorem dX4_nextNumber_24 : decode cX4_nextNumber 24 = .ok (.invokestatic 150, 3) := by decide +kernel
theorem dX4_nextNumber_27 : decode cX4_nextNumber 27 = .ok (.ifCond .eq 52, 3) := by decide +kernel
theorem dX4_nextNumber_30 : decode cX4_nextNumber 30 = .ok (.aload_n 0, 1) := by decide +kernel
theorem dX4_nextNumber_31 : decode cX4_nextNumber 31 = .ok (.getfield 22, 3) := by decide +kernel
theorem dX4_nextNumber_34 : decode cX4_nextNumber 34 = .ok (.aload_n 0, 1) := by decide +kernel
theorem dX4_nextNumber_35 : decode cX4_nextNumber 35 = .ok (.getfield 19, 3) := by decide +kernel
theorem dX4_nextNumber_38 : decode cX4_nextNumber 38 = .ok (.isub, 1) := by decide +kernel
theorem dX4_nextNumber_39 : decode cX4_nextNumber 39 = .ok (.iconst 3, 1) := by decide +kernel
theorem dX4_nextNumber_40 : decode cX4_nextNumber 40 = .ok (.if_icmp .ge 26, 3) := by decide +kernel
theorem dX4_nextNumber_43 : decode cX4_nextNumber 43 = .ok (.aload_n 0, 1) := by decide +kernel
theorem dX4_nextNumber_44 : decode cX4_nextNumber 44 = .ok (.aload_n 0, 1) := by decide +kernel
theorem dX4_nextNumber_45 : decode cX4_nextNumber 45 = .ok (.getfield 28, 3) := by decide +kernel
theorem dX4_nextNumber_48 : decode cX4_nextNumber 48 = .ok (.bipush 10, 2) := by decide +kernel
theorem dX4_nextNumber_50 : decode cX4_nextNumber 50 = .ok (.imul, 1) := by decide +kernel
theorem dX4_nextNumber_51 : decode cX4_nextNumber 51 = .ok (.aload_n 0, 1) := by decide +kernel
theorem dX4_nextNumber_52 : decode cX4_nextNumber 52 = .ok (.aload_n 0, 1) := by decide +kernel
theorem dX4_nextNumber_53 : decode cX4_nextNumber 53 = .ok (.getfield 22, 3) := by decide +kernel
theorem dX4_nextNumber_56 : decode cX4_nextNumber 56 = .ok (.invokevirtual 136, 3) := by decide +kernel
theorem dX4_nextNumber_59 : decode cX4_nextNumber 59 = .ok (.iadd, 1) := by decide +kernel
theorem dX4_nextNumber_60 : decode cX4_nextNumber 60 = .ok (.bipush 48, 2) := by decide +kernel
theorem dX4_nextNumber_62 : decode cX4_nextNumber 62 = .ok (.isub, 1) := by decide +kernel
theorem dX4_nextNumber_63 : decode cX4_nextNumber 63 = .ok (.putfield 28, 3) := by decide +kernel
theorem dX4_nextNumber_66 : decode cX4_nextNumber 66 = .ok (.aload_n 0, 1) := by decide +kernel
theorem dX4_nextNumber_67 : decode cX4_nextNumber 67 = .ok (.dup, 1) := by decide +kernel
theorem dX4_nextNumber_68 : decode cX4_nextNumber 68 = .ok (.getfield 22, 3) := by decide +kernel
theorem dX4_nextNumber_71 : decode cX4_nextNumber 71 = .ok (.iconst 1, 1) := by decide +kernel
theorem dX4_nextNumber_72 : decode cX4_nextNumber 72 = .ok (.iadd, 1) := by decide +kernel
theorem dX4_nextNumber_73 : decode cX4_nextNumber 73 = .ok (.putfield 22, 3) := by decide +kernel
theorem dX4_nextNumber_76 : decode cX4_nextNumber 76 = .ok (.goto (-71), 3) := by decide +kernel
theorem dX4_nextNumber_79 : decode cX4_nextNumber 79 = .ok (.aload_n 0, 1) := by decide +kernel
theorem dX4_nextNumber_80 : decode cX4_nextNumber 80 = .ok (.aload_n 0, 1) := by decide +kernel
theorem dX4_nextNumber_81 : decode cX4_nextNumber 81 = .ok (.getfield 22, 3) := by decide +kernel
theorem dX4_nextNumber_84 : decode cX4_nextNumber 84 = .ok (.aload_n 0, 1) := by decide +kernel
theorem dX4_nextNumber_85 : decode cX4_nextNumber 85 = .ok (.getfield 19, 3) := by decide +kernel
theorem dX4_nextNumber_88 : decode cX4_nextNumber 88 = .ok (.isub, 1) := by decide +kernel
theorem dX4_nextNumber_89 : decode cX4_nextNumber 89 = .ok (.iconst 3, 1) := by decide +kernel
theorem dX4_nextNumber_90 : decode cX4_nextNumber 90 = .ok (.if_icmp .le 7, 3) := by decide +kernel
theorem dX4_nextNumber_93 : decode cX4_nextNumber 93 = .ok (.iconst 4, 1) := by decide +kernel
theorem dX4_nextNumber_94 : decode cX4_nextNumber 94 = .ok (.goto 4, 3) := by decide +kernel
theorem dX4_nextNumber_97 : decode cX4_nextNumber 97 = .ok (.iconst 2, 1) := by decide +kernel
theorem dX4_nextNumber_98 : decode cX4_nextNumber 98 = .ok (.putfield 25, 3) := by decide +kernel
theorem dX4_nextNumber_101 : decode cX4_nextNumber 101 = .ok (.return_, 1) := by decide +kernel
theorem dX4_byteAt_0 : decode cX4_byteAt 0 = .ok (.iload_n 1, 1) := by decide +kernel
theorem dX4_byteAt_1 : decode cX4_byteAt 1 = .ok (.ifCond .lt 20, 3) := by decide +kernel
theorem dX4_byteAt_4 : decode cX4_byteAt 4 = .ok (.iload_n 1, 1) := by decide +kernel
theorem dX4_byteAt_5 : decode cX4_byteAt 5 = .ok (.aload_n 0, 1) := by decide +kernel
theorem dX4_byteAt_6 : decode cX4_byteAt 6 = .ok (.getfield 15, 3) := by decide +kernel
theorem dX4_byteAt_9 : decode cX4_byteAt 9 = .ok (.if_icmp .ge 12, 3) := by decide +kernel
theorem dX4_byteAt_12 : decode cX4_byteAt 12 = .ok (.aload_n 0, 1) := by decide +kernel
theorem dX4_byteAt_13 : decode cX4_byteAt 13 = .ok (.getfield 9, 3) := by decide +kernel
theorem dX4_byteAt_16 : decode cX4_byteAt 16 = .ok (.iload_n 1, 1) := by decide +kernel
theorem dX4_byteAt_17 : decode cX4_byteAt 17 = .ok (.baload, 1) := by decide +kernel
theorem dX4_byteAt_18 : decode cX4_byteAt 18 = .ok (.goto 4, 3) := by decide +kernel
theorem dX4_byteAt_21 : decode cX4_byteAt 21 = .ok (.iconst 0, 1) := by decide +kernel
theorem dX4_byteAt_22 : decode cX4_byteAt 22 = .ok (.ireturn, 1) := by decide +kernel
theorem dX4_isBlank_0 : decode cX4_isBlank 0 = .ok (.iload_n 0, 1) := by decide +kernel
theorem dX4_isBlank_1 : decode cX4_isBlank 1 = .ok (.bipush 32, 2) := by decide +kernel
theorem dX4_isBlank_3 : decode cX4_isBlank 3 = .ok (.if_icmp .eq 9, 3) := by decide +kernel
theorem dX4_isBlank_6 : decode cX4_isBlank 6 = .ok (.iload_n 0, 1) := by decide +kernel
theorem dX4_isBlank_7 : decode cX4_isBlank 7 = .ok (.bipush 10, 2) := by decide +kernel
theorem dX4_isBlank_9 : decode cX4_isBlank 9 = .ok (.if_icmp .ne 7, 3) := by decide +kernel
theorem dX4_isBlank_12 : decode cX4_isBlank 12 = .ok (.iconst 1, 1) := by decide +kernel
theorem dX4_isBlank_13 : decode cX4_isBlank 13 = .ok (.goto 4, 3) := by decide +kernel
theorem dX4_isBlank_16 : decode cX4_isBlank 16 = .ok (.iconst 0, 1) := by decide +kernel
theorem dX4_isBlank_17 : decode cX4_isBlank 17 = .ok (.ireturn, 1) := by decide +kernel
theorem dX4_isLetter_0 : decode cX4_isLetter 0 = .ok (.iload_n 0, 1) := by decide +kernel
theorem dX4_isLetter_1 : decode cX4_isLetter 1 = .ok (.bipush 97, 2) := by decide +kernel
theorem dX4_isLetter_3 : decode cX4_isLetter 3 = .ok (.if_icmp .lt 13, 3) := by decide +kernel
theorem dX4_isLetter_6 : decode cX4_isLetter 6 = .ok (.iload_n 0, 1) := by decide +kernel
theorem dX4_isLetter_7 : decode cX4_isLetter 7 = .ok (.bipush 122, 2) := by decide +kernel
theorem dX4_isLetter_9 : decode cX4_isLetter 9 = .ok (.if_icmp .gt 7, 3) := by decide +kernel
theorem dX4_isLetter_12 : decode cX4_isLetter 12 = .ok (.iconst 1, 1) := by decide +kernel
theorem dX4_isLetter_13 : decode cX4_isLetter 13 = .ok (.goto 4, 3) := by decide +kernel
theorem dX4_isLetter_16 : decode cX4_isLetter 16 = .ok (.iconst 0, 1) := by decide +kernel
theorem dX4_isLetter_17 : decode cX4_isLetter 17 = .ok (.ireturn, 1) := by decide +kernel
theorem dX4_isFigure_0 : decode cX4_isFigure 0 = .ok (.iload_n 0, 1) := by decide +kernel
theorem dX4_isFigure_1 : decode cX4_isFigure 1 = .ok (.bipush 48, 2) := by decide +kernel
theorem dX4_isFigure_3 : decode cX4_isFigure 3 = .ok (.if_icmp .lt 13, 3) := by decide +kernel
theorem dX4_isFigure_6 : decode cX4_isFigure 6 = .ok (.iload_n 0, 1) := by decide +kernel
theorem dX4_isFigure_7 : decode cX4_isFigure 7 = .ok (.bipush 57, 2) := by decide +kernel
theorem dX4_isFigure_9 : decode cX4_isFigure 9 = .ok (.if_icmp .gt 7, 3) := by decide +kernel
theorem dX4_isFigure_12 : decode cX4_isFigure 12 = .ok (.iconst 1, 1) := by decide +kernel
theorem dX4_isFigure_13 : decode cX4_isFigure 13 = .ok (.goto 4, 3) := by decide +kernel
theorem dX4_isFigure_16 : decode cX4_isFigure 16 = .ok (.iconst 0, 1) := by decide +kernel
theorem dX4_isFigure_17 : decode cX4_isFigure 17 = .ok (.ireturn, 1) := by decide +kernel
theorem dJ13_bitCount_95d88_0 : decode cJ13_bitCount_95d88 0 = .ok (.lload_n 0, 1) := by decide +kernel
theorem dJ13_bitCount_95d88_1 : decode cJ13_bitCount_95d88 1 = .ok (.lload_n 0, 1) := by decide +kernel
theorem dJ13_bitCount_95d88_2 : decode cJ13_bitCount_95d88 2 = .ok (.iconst 1, 1) := by decide +kernel
theorem dJ13_bitCount_95d88_3 : decode cJ13_bitCount_95d88 3 = .ok (.lushr, 1) := by decide +kernel
theorem dJ13_bitCount_95d88_4 : decode cJ13_bitCount_95d88 4 = .ok (.ldc2_w 314, 3) := by decide +kernel
theorem dJ13_bitCount_95d88_7 : decode cJ13_bitCount_95d88 7 = .ok (.land, 1) := by decide +kernel
theorem dJ13_bitCount_95d88_8 : decode cJ13_bitCount_95d88 8 = .ok (.lsub, 1) := by decide +kernel
theorem dJ13_bitCount_95d88_9 : decode cJ13_bitCount_95d88 9 = .ok (.lstore_n 0, 1) := by decide +kernel
theorem dJ13_bitCount_95d88_10 : decode cJ13_bitCount_95d88 10 = .ok (.lload_n 0, 1) := by decide +kernel
theorem dJ13_bitCount_95d88_11 : decode cJ13_bitCount_95d88 11 = .ok (.ldc2_w 316, 3) := by decide +kernel
theorem dJ13_bitCount_95d88_14 : decode cJ13_bitCount_95d88 14 = .ok (.land, 1) := by decide +kernel
theorem dJ13_bitCount_95d88_15 : decode cJ13_bitCount_95d88 15 = .ok (.lload_n 0, 1) := by decide +kernel
theorem dJ13_bitCount_95d88_16 : decode cJ13_bitCount_95d88 16 = .ok (.iconst 2, 1) := by decide +kernel
theorem dJ13_bitCount_95d88_17 : decode cJ13_bitCount_95d88 17 = .ok (.lushr, 1) := by decide +kernel
theorem dJ13_bitCount_95d88_18 : decode cJ13_bitCount_95d88 18 = .ok (.ldc2_w 316, 3) := by decide +kernel
theorem dJ13_bitCount_95d88_21 : decode cJ13_bitCount_95d88 21 = .ok (.land, 1) := by decide +kernel
theorem dJ13_bitCount_95d88_22 : decode cJ13_bitCount_95d88 22 = .ok (.ladd, 1) := by decide +kernel
theorem dJ13_bitCount_95d88_23 : decode cJ13_bitCount_95d88 23 = .ok (.lstore_n 0, 1) := by decide +kernel
theorem dJ13_bitCount_95d88_24 : decode cJ13_bitCount_95d88 24 = .ok (.lload_n 0, 1) := by decide +kernel
theorem dJ13_bitCount_95d88_25 : decode cJ13_bitCount_95d88 25 = .ok (.lload_n 0, 1) := by decide +kernel
theorem dJ13_bitCount_95d88_26 : decode cJ13_bitCount_95d88 26 = .ok (.iconst 4, 1) := by decide +kernel
theorem dJ13_bitCount_95d88_27 : decode cJ13_bitCount_95d88 27 = .ok (.lushr, 1) := by decide +kernel
theorem dJ13_bitCount_95d88_28 : decode cJ13_bitCount_95d88 28 = .ok (.ladd, 1) := by decide +kernel
theorem dJ13_bitCount_95d88_29 : decode cJ13_bitCount_95d88 29 = .ok (.ldc2_w 318, 3) := by decide +kernel
theorem dJ13_bitCount_95d88_32 : decode cJ13_bitCount_95d88 32 = .ok (.land, 1) := by decide +kernel
theorem dJ13_bitCount_95d88_33 : decode cJ13_bitCount_95d88 33 = .ok (.lstore_n 0, 1) := by decide +kernel
theorem dJ13_bitCount_95d88_34 : decode cJ13_bitCount_95d88 34 = .ok (.lload_n 0, 1) := by decide +kernel
theorem dJ13_bitCount_95d88_35 : decode cJ13_bitCount_95d88 35 = .ok (.lload_n 0, 1) := by decide +kernel
theorem dJ13_bitCount_95d88_36 : decode cJ13_bitCount_95d88 36 = .ok (.bipush 8, 2) := by decide +kernel
theorem dJ13_bitCount_95d88_38 : decode cJ13_bitCount_95d88 38 = .ok (.lushr, 1) := by decide +kernel
theorem dJ13_bitCount_95d88_39 : decode cJ13_bitCount_95d88 39 = .ok (.ladd, 1) := by decide +kernel
theorem dJ13_bitCount_95d88_40 : decode cJ13_bitCount_95d88 40 = .ok (.lstore_n 0, 1) := by decide +kernel
theorem dJ13_bitCount_95d88_41 : decode cJ13_bitCount_95d88 41 = .ok (.lload_n 0, 1) := by decide +kernel
theorem dJ13_bitCount_95d88_42 : decode cJ13_bitCount_95d88 42 = .ok (.lload_n 0, 1) := by decide +kernel
theorem dJ13_bitCount_95d88_43 : decode cJ13_bitCount_95d88 43 = .ok (.bipush 16, 2) := by decide +kernel
theorem dJ13_bitCount_95d88_45 : decode cJ13_bitCount_95d88 45 = .ok (.lushr, 1) := by decide +kernel
theorem dJ13_bitCount_95d88_46 : decode cJ13_bitCount_95d88 46 = .ok (.ladd, 1) := by decide +kernel
theorem dJ13_bitCount_95d88_47 : decode cJ13_bitCount_95d88 47 = .ok (.lstore_n 0, 1) := by decide +kernel
theorem dJ13_bitCount_95d88_48 : decode cJ13_bitCount_95d88 48 = .ok (.lload_n 0, 1) := by decide +kernel
theorem dJ13_bitCount_95d88_49 : decode cJ13_bitCount_95d88 49 = .ok (.lload_n 0, 1) := by decide +kernel
theorem dJ13_bitCount_95d88_50 : decode cJ13_bitCount_95d88 50 = .ok (.bipush 32, 2) := by decide +kernel
theorem dJ13_bitCount_95d88_52 : decode cJ13_bitCount_95d88 52 = .ok (.lushr, 1) := by decide +kernel
theorem dJ13_bitCount_95d88_53 : decode cJ13_bitCount_95d88 53 = .ok (.ladd, 1) := by decide +kernel
theorem dJ13_bitCount_95d88_54 : decode cJ13_bitCount_95d88 54 = .ok (.lstore_n 0, 1) := by decide +kernel
theorem dJ13_bitCount_95d88_55 : decode cJ13_bitCount_95d88 55 = .ok (.lload_n 0, 1) := by decide +kernel
theorem dJ13_bitCount_95d88_56 : decode cJ13_bitCount_95d88 56 = .ok (.l2i, 1) := by decide +kernel
theorem dJ13_bitCount_95d88_57 : decode cJ13_bitCount_95d88 57 = .ok (.bipush 127, 2) := by decide +kernel
theorem dJ13_bitCount_95d88_59 : decode cJ13_bitCount_95d88 59 = .ok (.iand, 1) := by decide +kernel
theorem dJ13_bitCount_95d88_60 : decode cJ13_bitCount_95d88 60 = .ok (.ireturn, 1) := by decide +kernel
theorem dJ0_length_8abf5_0 : decode cJ0_length_8abf5 0 = .ok (.aload_n 0, 1) := by decide +kernel
theorem dJ0_length_8abf5_1 : decode cJ0_length_8abf5 1 = .ok (.getfield 9, 3) := by decide +kernel
theorem dJ0_length_8abf5_4 : decode cJ0_length_8abf5 4 = .ok (.arraylength, 1) := by decide +kernel
theorem dJ0_length_8abf5_5 : decode cJ0_length_8abf5 5 = .ok (.aload_n 0, 1) := by decide +kernel
theorem dJ0_length_8abf5_6 : decode cJ0_length_8abf5 6 = .ok (.invokevirtual 335, 3) := by decide +kernel
theorem dJ0_length_8abf5_9 : decode cJ0_length_8abf5 9 = .ok (.ishr, 1) := by decide +kernel
theorem dJ0_length_8abf5_10 : decode cJ0_length_8abf5 10 = .ok (.ireturn, 1) := by decide +kernel
theorem dJ0_charAt_5068e_0 : decode cJ0_charAt_5068e 0 = .ok (.aload_n 0, 1) := by decide +kernel
theorem dJ0_charAt_5068e_1 : decode cJ0_charAt_5068e 1 = .ok (.invokevirtual 492, 3) := by decide +kernel
theorem dJ0_charAt_5068e_4 : decode cJ0_charAt_5068e 4 = .ok (.ifCond .eq 12, 3) := by decide +kernel
theorem dJ0_charAt_5068e_7 : decode cJ0_charAt_5068e 7 = .ok (.aload_n 0, 1) := by decide +kernel
theorem dJ0_charAt_5068e_8 : decode cJ0_charAt_5068e 8 = .ok (.getfield 9, 3) := by decide +kernel
theorem dJ0_charAt_5068e_11 : decode cJ0_charAt_5068e 11 = .ok (.iload_n 1, 1) := by decide +kernel
theorem dJ0_charAt_5068e_12 : decode cJ0_charAt_5068e 12 = .ok (.invokestatic 495, 3) := by decide +kernel
theorem dJ0_charAt_5068e_15 : decode cJ0_charAt_5068e 15 = .ok (.ireturn, 1) := by decide +kernel
theorem dJ0_charAt_5068e_16 : decode cJ0_charAt_5068e 16 = .ok (.aload_n 0, 1) := by decide +kernel
theorem dJ0_charAt_5068e_17 : decode cJ0_charAt_5068e 17 = .ok (.getfield 9, 3) := by decide +kernel
theorem dJ0_charAt_5068e_20 : decode cJ0_charAt_5068e 20 = .ok (.iload_n 1, 1) := by decide +kernel
theorem dJ0_charAt_5068e_21 : decode cJ0_charAt_5068e 21 = .ok (.invokestatic 498, 3) := by decide +kernel
theorem dJ0_charAt_5068e_24 : decode cJ0_charAt_5068e 24 = .ok (.ireturn, 1) := by decide +kernel
theorem dJ0_coder_7d493_0 : decode cJ0_coder_7d493 0 = .ok (.getstatic 38, 3) := by decide +kernel
theorem dJ0_coder_7d493_3 : decode cJ0_coder_7d493 3 = .ok (.ifCond .eq 10, 3) := by decide +kernel
theorem dJ0_coder_7d493_6 : decode cJ0_coder_7d493 6 = .ok (.aload_n 0, 1) := by decide +kernel
theorem dJ0_coder_7d493_7 : decode cJ0_coder_7d493 7 = .ok (.getfield 15, 3) := by decide +kernel
theorem dJ0_coder_7d493_10 : decode cJ0_coder_7d493 10 = .ok (.goto 4, 3) := by decide +kernel
theorem dJ0_coder_7d493_13 : decode cJ0_coder_7d493 13 = .ok (.iconst 1, 1) := by decide +kernel
theorem dJ0_coder_7d493_14 : decode cJ0_coder_7d493 14 = .ok (.ireturn, 1) := by decide +kernel
theorem dJ0_isLatin1_aae02_0 : decode cJ0_isLatin1_aae02 0 = .ok (.getstatic 38, 3) := by decide +kernel
theorem dJ0_isLatin1_aae02_3 : decode cJ0_isLatin1_aae02 3 = .ok (.ifCond .eq 14, 3) := by decide +kernel
theorem dJ0_isLatin1_aae02_6 : decode cJ0_isLatin1_aae02 6 = .ok (.aload_n 0, 1) := by decide +kernel
theorem dJ0_isLatin1_aae02_7 : decode cJ0_isLatin1_aae02 7 = .ok (.getfield 15, 3) := by decide +kernel
theorem dJ0_isLatin1_aae02_10 : decode cJ0_isLatin1_aae02 10 = .ok (.ifCond .ne 7, 3) := by decide +kernel
theorem dJ0_isLatin1_aae02_13 : decode cJ0_isLatin1_aae02 13 = .ok (.iconst 1, 1) := by decide +kernel
theorem dJ0_isLatin1_aae02_14 : decode cJ0_isLatin1_aae02 14 = .ok (.goto 4, 3) := by decide +kernel
theorem dJ0_isLatin1_aae02_17 : decode cJ0_isLatin1_aae02 17 = .ok (.iconst 0, 1) := by decide +kernel
theorem dJ0_isLatin1_aae02_18 : decode cJ0_isLatin1_aae02 18 = .ok (.ireturn, 1) := by decide +kernel
theorem dJ0_checkIndex_df160_0 : decode cJ0_checkIndex_df160 0 = .ok (.iload_n 0, 1) := by decide +kernel
theorem dJ0_checkIndex_df160_1 : decode cJ0_checkIndex_df160 1 = .ok (.iload_n 1, 1) := by decide +kernel
theorem dJ0_checkIndex_df160_2 : decode cJ0_checkIndex_df160 2 = .ok (.getstatic 1053, 3) := by decide +kernel
theorem dJ0_checkIndex_df160_5 : decode cJ0_checkIndex_df160 5 = .ok (.invokestatic 1059, 3) := by decide +kernel
theorem dJ0_checkIndex_df160_8 : decode cJ0_checkIndex_df160 8 = .ok (.pop, 1) := by decide +kernel
theorem dJ0_checkIndex_df160_9 : decode cJ0_checkIndex_df160 9 = .ok (.return_, 1) := by decide +kernel
theorem dJ1_charAt_3b067_0 : decode cJ1_charAt_3b067 0 = .ok (.iload_n 1, 1) := by decide +kernel
theorem dJ1_charAt_3b067_1 : decode cJ1_charAt_3b067 1 = .ok (.aload_n 0, 1) := by decide +kernel
theorem dJ1_charAt_3b067_2 : decode cJ1_charAt_3b067 2 = .ok (.arraylength, 1) := by decide +kernel
theorem dJ1_charAt_3b067_3 : decode cJ1_charAt_3b067 3 = .ok (.invokestatic 9, 3) := by decide +kernel
theorem dJ1_charAt_3b067_6 : decode cJ1_charAt_3b067 6 = .ok (.aload_n 0, 1) := by decide +kernel
theorem dJ1_charAt_3b067_7 : decode cJ1_charAt_3b067 7 = .ok (.iload_n 1, 1) := by decide +kernel
theorem dJ1_charAt_3b067_8 : decode cJ1_charAt_3b067 8 = .ok (.baload, 1) := by decide +kernel
theorem dJ1_charAt_3b067_9 : decode cJ1_charAt_3b067 9 = .ok (.sipush 255, 3) := by decide +kernel
theorem dJ1_charAt_3b067_12 : decode cJ1_charAt_3b067 12 = .ok (.iand, 1) := by decide +kernel
theorem dJ1_charAt_3b067_13 : decode cJ1_charAt_3b067 13 = .ok (.i2c, 1) := by decide +kernel
theorem dJ1_charAt_3b067_14 : decode cJ1_charAt_3b067 14 = .ok (.ireturn, 1) := by decide +kernel
theorem dJ2_getChar_3b067_0 : decode cJ2_getChar_3b067 0 = .ok (.getstatic 44, 3) := by decide +kernel
theorem dJ2_getChar_3b067_3 : decode cJ2_getChar_3b067 3 = .ok (.ifCond .ne 25, 3) := by decide +kernel
theorem dJ2_getChar_3b067_6 : decode cJ2_getChar_3b067 6 = .ok (.iload_n 1, 1) := by decide +kernel
theorem dJ2_getChar_3b067_7 : decode cJ2_getChar_3b067 7 = .ok (.ifCond .lt 11, 3) := by decide +kernel
theorem dJ2_getChar_3b067_10 : decode cJ2_getChar_3b067 10 = .ok (.iload_n 1, 1) := by decide +kernel
theorem dJ2_getChar_3b067_11 : decode cJ2_getChar_3b067 11 = .ok (.aload_n 0, 1) := by decide +kernel
theorem dJ2_getChar_3b067_12 : decode cJ2_getChar_3b067 12 = .ok (.invokestatic 48, 3) := by decide +kernel
theorem dJ2_getChar_3b067_15 : decode cJ2_getChar_3b067 15 = .ok (.if_icmp .lt 13, 3) := by decide +kernel
theorem dJ2_getChar_3b067_18 : decode cJ2_getChar_3b067 18 = .ok (.new 52, 3) := by decide +kernel
theorem dJ2_getChar_3b067_21 : decode cJ2_getChar_3b067 21 = .ok (.dup, 1) := by decide +kernel
theorem dJ2_getChar_3b067_22 : decode cJ2_getChar_3b067 22 = .ok (.ldc 54, 2) := by decide +kernel
theorem dJ2_getChar_3b067_24 : decode cJ2_getChar_3b067 24 = .ok (.invokespecial 56, 3) := by decide +kernel
theorem dJ2_getChar_3b067_27 : decode cJ2_getChar_3b067 27 = .ok (.athrow, 1) := by decide +kernel
theorem dJ2_getChar_3b067_28 : decode cJ2_getChar_3b067 28 = .ok (.iload_n 1, 1) := by decide +kernel
theorem dJ2_getChar_3b067_29 : decode cJ2_getChar_3b067 29 = .ok (.iconst 1, 1) := by decide +kernel
theorem dJ2_getChar_3b067_30 : decode cJ2_getChar_3b067 30 = .ok (.ishl, 1) := by decide +kernel
theorem dJ2_getChar_3b067_31 : decode cJ2_getChar_3b067 31 = .ok (.istore_n 1, 1) := by decide +kernel
theorem dJ2_getChar_3b067_32 : decode cJ2_getChar_3b067 32 = .ok (.aload_n 0, 1) := by decide +kernel
theorem dJ2_getChar_3b067_33 : decode cJ2_getChar_3b067 33 = .ok (.iload_n 1, 1) := by decide +kernel
theorem dJ2_getChar_3b067_34 : decode cJ2_getChar_3b067 34 = .ok (.iinc 1 1, 3) := by decide +kernel
theorem dJ2_getChar_3b067_37 : decode cJ2_getChar_3b067 37 = .ok (.baload, 1) := by decide +kernel
theorem dJ2_getChar_3b067_38 : decode cJ2_getChar_3b067 38 = .ok (.sipush 255, 3) := by decide +kernel
theorem dJ2_getChar_3b067_41 : decode cJ2_getChar_3b067 41 = .ok (.iand, 1) := by decide +kernel
theorem dJ2_getChar_3b067_42 : decode cJ2_getChar_3b067 42 = .ok (.getstatic 59, 3) := by decide +kernel
theorem dJ2_getChar_3b067_45 : decode cJ2_getChar_3b067 45 = .ok (.ishl, 1) := by decide +kernel
theorem dJ2_getChar_3b067_46 : decode cJ2_getChar_3b067 46 = .ok (.aload_n 0, 1) := by decide +kernel
theorem dJ2_getChar_3b067_47 : decode cJ2_getChar_3b067 47 = .ok (.iload_n 1, 1) := by decide +kernel
theorem dJ2_getChar_3b067_48 : decode cJ2_getChar_3b067 48 = .ok (.baload, 1) := by decide +kernel
theorem dJ2_getChar_3b067_49 : decode cJ2_getChar_3b067 49 = .ok (.sipush 255, 3) := by decide +kernel
theorem dJ2_getChar_3b067_52 : decode cJ2_getChar_3b067 52 = .ok (.iand, 1) := by decide +kernel
theorem dJ2_getChar_3b067_53 : decode cJ2_getChar_3b067 53 = .ok (.getstatic 63, 3) := by decide +kernel
theorem dJ2_getChar_3b067_56 : decode cJ2_getChar_3b067 56 = .ok (.ishl, 1) := by decide +kernel
theorem dJ2_getChar_3b067_57 : decode cJ2_getChar_3b067 57 = .ok (.ior, 1) := by decide +kernel
theorem dJ2_getChar_3b067_58 : decode cJ2_getChar_3b067 58 = .ok (.i2c, 1) := by decide +kernel
theorem dJ2_getChar_3b067_59 : decode cJ2_getChar_3b067 59 = .ok (.ireturn, 1) := by decide +kernel
theorem dJ2_length_9d52b_0 : decode cJ2_length_9d52b 0 = .ok (.aload_n 0, 1) := by decide +kernel
theorem dJ2_length_9d52b_1 : decode cJ2_length_9d52b 1 = .ok (.arraylength, 1) := by decide +kernel
theorem dJ2_length_9d52b_2 : decode cJ2_length_9d52b 2 = .ok (.iconst 1, 1) := by decide +kernel
theorem dJ2_length_9d52b_3 : decode cJ2_length_9d52b 3 = .ok (.ishr, 1) := by decide +kernel
theorem dJ2_length_9d52b_4 : decode cJ2_length_9d52b 4 = .ok (.ireturn, 1) := by decide +kernel
theorem dJ2_charAt_3b067_0 : decode cJ2_charAt_3b067 0 = .ok (.iload_n 1, 1) := by decide +kernel
theorem dJ2_charAt_3b067_1 : decode cJ2_charAt_3b067 1 = .ok (.aload_n 0, 1) := by decide +kernel
theorem dJ2_charAt_3b067_2 : decode cJ2_charAt_3b067 2 = .ok (.invokestatic 67, 3) := by decide +kernel
theorem dJ2_charAt_3b067_5 : decode cJ2_charAt_3b067 5 = .ok (.aload_n 0, 1) := by decide +kernel
theorem dJ2_charAt_3b067_6 : decode cJ2_charAt_3b067 6 = .ok (.iload_n 1, 1) := by decide +kernel
theorem dJ2_charAt_3b067_7 : decode cJ2_charAt_3b067 7 = .ok (.invokestatic 71, 3) := by decide +kernel
theorem dJ2_charAt_3b067_10 : decode cJ2_charAt_3b067 10 = .ok (.ireturn, 1) := by decide +kernel
theorem dJ2_checkIndex_2214a_0 : decode cJ2_checkIndex_2214a 0 = .ok (.iload_n 0, 1) := by decide +kernel
theorem dJ2_checkIndex_2214a_1 : decode cJ2_checkIndex_2214a 1 = .ok (.aload_n 1, 1) := by decide +kernel
theorem dJ2_checkIndex_2214a_2 : decode cJ2_checkIndex_2214a 2 = .ok (.invokestatic 48, 3) := by decide +kernel
theorem dJ2_checkIndex_2214a_5 : decode cJ2_checkIndex_2214a 5 = .ok (.invokestatic 414, 3) := by decide +kernel
theorem dJ2_checkIndex_2214a_8 : decode cJ2_checkIndex_2214a 8 = .ok (.return_, 1) := by decide +kernel
theorem dJ7_fill_53178_0 : decode cJ7_fill_53178 0 = .ok (.iconst 0, 1) := by decide +kernel
theorem dJ7_fill_53178_1 : decode cJ7_fill_53178 1 = .ok (.istore_n 2, 1) := by decide +kernel
theorem dJ7_fill_53178_2 : decode cJ7_fill_53178 2 = .ok (.aload_n 0, 1) := by decide +kernel
theorem dJ7_fill_53178_3 : decode cJ7_fill_53178 3 = .ok (.arraylength, 1) := by decide +kernel
theorem dJ7_fill_53178_4 : decode cJ7_fill_53178 4 = .ok (.istore_n 3, 1) := by decide +kernel
theorem dJ7_fill_53178_5 : decode cJ7_fill_53178 5 = .ok (.iload_n 2, 1) := by decide +kernel
theorem dJ7_fill_53178_6 : decode cJ7_fill_53178 6 = .ok (.iload_n 3, 1) := by decide +kernel
theorem dJ7_fill_53178_7 : decode cJ7_fill_53178 7 = .ok (.if_icmp .ge 13, 3) := by decide +kernel
theorem dJ7_fill_53178_10 : decode cJ7_fill_53178 10 = .ok (.aload_n 0, 1) := by decide +kernel
theorem dJ7_fill_53178_11 : decode cJ7_fill_53178 11 = .ok (.iload_n 2, 1) := by decide +kernel
theorem dJ7_fill_53178_12 : decode cJ7_fill_53178 12 = .ok (.iload_n 1, 1) := by decide +kernel
theorem dJ7_fill_53178_13 : decode cJ7_fill_53178 13 = .ok (.iastore, 1) := by decide +kernel
theorem dJ7_fill_53178_14 : decode cJ7_fill_53178 14 = .ok (.iinc 2 1, 3) := by decide +kernel
theorem dJ7_fill_53178_17 : decode cJ7_fill_53178 17 = .ok (.goto (-12), 3) := by decide +kernel
theorem dJ7_fill_53178_20 : decode cJ7_fill_53178 20 = .ok (.return_, 1) := by decide +kernel
theorem dJ3_checkIndex_8e157_0 : decode cJ3_checkIndex_8e157 0 = .ok (.iload_n 0, 1) := by decide +kernel
theorem dJ3_checkIndex_8e157_1 : decode cJ3_checkIndex_8e157 1 = .ok (.ifCond .lt 8, 3) := by decide +kernel
theorem dJ3_checkIndex_8e157_4 : decode cJ3_checkIndex_8e157 4 = .ok (.iload_n 0, 1) := by decide +kernel
theorem dJ3_checkIndex_8e157_5 : decode cJ3_checkIndex_8e157 5 = .ok (.iload_n 1, 1) := by decide +kernel
theorem dJ3_checkIndex_8e157_6 : decode cJ3_checkIndex_8e157 6 = .ok (.if_icmp .lt 10, 3) := by decide +kernel
theorem dJ3_checkIndex_8e157_9 : decode cJ3_checkIndex_8e157 9 = .ok (.aload_n 2, 1) := by decide +kernel
theorem dJ3_checkIndex_8e157_10 : decode cJ3_checkIndex_8e157 10 = .ok (.iload_n 0, 1) := by decide +kernel
theorem dJ3_checkIndex_8e157_11 : decode cJ3_checkIndex_8e157 11 = .ok (.iload_n 1, 1) := by decide +kernel
theorem dJ3_checkIndex_8e157_12 : decode cJ3_checkIndex_8e157 12 = .ok (.invokestatic 95, 3) := by decide +kernel
theorem dJ3_checkIndex_8e157_15 : decode cJ3_checkIndex_8e157 15 = .ok (.athrow, 1) := by decide +kernel
theorem dJ3_checkIndex_8e157_16 : decode cJ3_checkIndex_8e157 16 = .ok (.iload_n 0, 1) := by decide +kernel
theorem dJ3_checkIndex_8e157_17 : decode cJ3_checkIndex_8e157 17 = .ok (.ireturn, 1) := by decide +kernel
