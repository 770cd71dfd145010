-- deps: 280
-- texts: what the instructions are
theorem jd_ln_0 : decode MJln.2.1 0 = .ok (.aload_n 0, 1) := by decide +kernel
theorem jd_ln_1 : decode MJln.2.1 1 = .ok (.getfield 9, 3) := by decide +kernel
theorem jd_ln_4 : decode MJln.2.1 4 = .ok (.arraylength, 1) := by decide +kernel
theorem jd_ln_5 : decode MJln.2.1 5 = .ok (.aload_n 0, 1) := by decide +kernel
theorem jd_ln_6 : decode MJln.2.1 6 = .ok (.invokevirtual 335, 3) := by decide +kernel
theorem jd_ln_9 : decode MJln.2.1 9 = .ok (.ishr, 1) := by decide +kernel
theorem jd_ln_10 : decode MJln.2.1 10 = .ok (.ireturn, 1) := by decide +kernel
theorem jd_ch_0 : decode MJch.2.1 0 = .ok (.aload_n 0, 1) := by decide +kernel
theorem jd_ch_1 : decode MJch.2.1 1 = .ok (.invokevirtual 492, 3) := by decide +kernel
theorem jd_ch_4 : decode MJch.2.1 4 = .ok (.ifCond .eq 12, 3) := by decide +kernel
theorem jd_ch_7 : decode MJch.2.1 7 = .ok (.aload_n 0, 1) := by decide +kernel
theorem jd_ch_8 : decode MJch.2.1 8 = .ok (.getfield 9, 3) := by decide +kernel
theorem jd_ch_11 : decode MJch.2.1 11 = .ok (.iload_n 1, 1) := by decide +kernel
theorem jd_ch_12 : decode MJch.2.1 12 = .ok (.invokestatic 495, 3) := by decide +kernel
theorem jd_ch_15 : decode MJch.2.1 15 = .ok (.ireturn, 1) := by decide +kernel
theorem jd_ch_16 : decode MJch.2.1 16 = .ok (.aload_n 0, 1) := by decide +kernel
theorem jd_ch_17 : decode MJch.2.1 17 = .ok (.getfield 9, 3) := by decide +kernel
theorem jd_ch_20 : decode MJch.2.1 20 = .ok (.iload_n 1, 1) := by decide +kernel
theorem jd_ch_21 : decode MJch.2.1 21 = .ok (.invokestatic 498, 3) := by decide +kernel
theorem jd_ch_24 : decode MJch.2.1 24 = .ok (.ireturn, 1) := by decide +kernel
theorem jd_i1_0 : decode MJi1.2.1 0 = .ok (.aload_n 0, 1) := by decide +kernel
theorem jd_i1_1 : decode MJi1.2.1 1 = .ok (.iload_n 1, 1) := by decide +kernel
theorem jd_i1_2 : decode MJi1.2.1 2 = .ok (.iconst 0, 1) := by decide +kernel
theorem jd_i1_3 : decode MJi1.2.1 3 = .ok (.invokevirtual 633, 3) := by decide +kernel
theorem jd_i1_6 : decode MJi1.2.1 6 = .ok (.ireturn, 1) := by decide +kernel
theorem jd_i2_0 : decode MJi2.2.1 0 = .ok (.aload_n 0, 1) := by decide +kernel
theorem jd_i2_1 : decode MJi2.2.1 1 = .ok (.invokevirtual 492, 3) := by decide +kernel
theorem jd_i2_4 : decode MJi2.2.1 4 = .ok (.ifCond .eq 19, 3) := by decide +kernel
theorem jd_i2_7 : decode MJi2.2.1 7 = .ok (.aload_n 0, 1) := by decide +kernel
theorem jd_i2_8 : decode MJi2.2.1 8 = .ok (.getfield 9, 3) := by decide +kernel
theorem jd_i2_11 : decode MJi2.2.1 11 = .ok (.iload_n 1, 1) := by decide +kernel
theorem jd_i2_12 : decode MJi2.2.1 12 = .ok (.iload_n 2, 1) := by decide +kernel
theorem jd_i2_13 : decode MJi2.2.1 13 = .ok (.aload_n 0, 1) := by decide +kernel
theorem jd_i2_14 : decode MJi2.2.1 14 = .ok (.invokevirtual 505, 3) := by decide +kernel
theorem jd_i2_17 : decode MJi2.2.1 17 = .ok (.invokestatic 637, 3) := by decide +kernel
theorem jd_i2_20 : decode MJi2.2.1 20 = .ok (.goto 16, 3) := by decide +kernel
theorem jd_i2_23 : decode MJi2.2.1 23 = .ok (.aload_n 0, 1) := by decide +kernel
theorem jd_i2_24 : decode MJi2.2.1 24 = .ok (.getfield 9, 3) := by decide +kernel
theorem jd_i2_27 : decode MJi2.2.1 27 = .ok (.iload_n 1, 1) := by decide +kernel
theorem jd_i2_28 : decode MJi2.2.1 28 = .ok (.iload_n 2, 1) := by decide +kernel
theorem jd_i2_29 : decode MJi2.2.1 29 = .ok (.aload_n 0, 1) := by decide +kernel
theorem jd_i2_30 : decode MJi2.2.1 30 = .ok (.invokevirtual 505, 3) := by decide +kernel
theorem jd_i2_33 : decode MJi2.2.1 33 = .ok (.invokestatic 640, 3) := by decide +kernel
theorem jd_i2_36 : decode MJi2.2.1 36 = .ok (.ireturn, 1) := by decide +kernel
theorem jd_cd_0 : decode MJcd.2.1 0 = .ok (.getstatic 38, 3) := by decide +kernel
theorem jd_cd_3 : decode MJcd.2.1 3 = .ok (.ifCond .eq 10, 3) := by decide +kernel
theorem jd_cd_6 : decode MJcd.2.1 6 = .ok (.aload_n 0, 1) := by decide +kernel
theorem jd_cd_7 : decode MJcd.2.1 7 = .ok (.getfield 15, 3) := by decide +kernel
theorem jd_cd_10 : decode MJcd.2.1 10 = .ok (.goto 4, 3) := by decide +kernel
theorem jd_cd_13 : decode MJcd.2.1 13 = .ok (.iconst 1, 1) := by decide +kernel
theorem jd_cd_14 : decode MJcd.2.1 14 = .ok (.ireturn, 1) := by decide +kernel
theorem jd_l1_0 : decode MJl1.2.1 0 = .ok (.getstatic 38, 3) := by decide +kernel
theorem jd_l1_3 : decode MJl1.2.1 3 = .ok (.ifCond .eq 14, 3) := by decide +kernel
theorem jd_l1_6 : decode MJl1.2.1 6 = .ok (.aload_n 0, 1) := by decide +kernel
theorem jd_l1_7 : decode MJl1.2.1 7 = .ok (.getfield 15, 3) := by decide +kernel
theorem jd_l1_10 : decode MJl1.2.1 10 = .ok (.ifCond .ne 7, 3) := by decide +kernel
theorem jd_l1_13 : decode MJl1.2.1 13 = .ok (.iconst 1, 1) := by decide +kernel
theorem jd_l1_14 : decode MJl1.2.1 14 = .ok (.goto 4, 3) := by decide +kernel
theorem jd_l1_17 : decode MJl1.2.1 17 = .ok (.iconst 0, 1) := by decide +kernel
theorem jd_l1_18 : decode MJl1.2.1 18 = .ok (.ireturn, 1) := by decide +kernel
theorem jd_ck_0 : decode MJck.2.1 0 = .ok (.iload_n 0, 1) := by decide +kernel
theorem jd_ck_1 : decode MJck.2.1 1 = .ok (.iload_n 1, 1) := by decide +kernel
theorem jd_ck_2 : decode MJck.2.1 2 = .ok (.getstatic 1053, 3) := by decide +kernel
theorem jd_ck_5 : decode MJck.2.1 5 = .ok (.invokestatic 1059, 3) := by decide +kernel
theorem jd_ck_8 : decode MJck.2.1 8 = .ok (.pop, 1) := by decide +kernel
theorem jd_ck_9 : decode MJck.2.1 9 = .ok (.return_, 1) := by decide +kernel
theorem jd_lc_0 : decode MJlc.2.1 0 = .ok (.iload_n 1, 1) := by decide +kernel
theorem jd_lc_1 : decode MJlc.2.1 1 = .ok (.aload_n 0, 1) := by decide +kernel
theorem jd_lc_2 : decode MJlc.2.1 2 = .ok (.arraylength, 1) := by decide +kernel
theorem jd_lc_3 : decode MJlc.2.1 3 = .ok (.invokestatic 9, 3) := by decide +kernel
theorem jd_lc_6 : decode MJlc.2.1 6 = .ok (.aload_n 0, 1) := by decide +kernel
theorem jd_lc_7 : decode MJlc.2.1 7 = .ok (.iload_n 1, 1) := by decide +kernel
theorem jd_lc_8 : decode MJlc.2.1 8 = .ok (.baload, 1) := by decide +kernel
theorem jd_lc_9 : decode MJlc.2.1 9 = .ok (.sipush 255, 3) := by decide +kernel
theorem jd_lc_12 : decode MJlc.2.1 12 = .ok (.iand, 1) := by decide +kernel
theorem jd_lc_13 : decode MJlc.2.1 13 = .ok (.i2c, 1) := by decide +kernel
theorem jd_lc_14 : decode MJlc.2.1 14 = .ok (.ireturn, 1) := by decide +kernel
theorem jd_ce_0 : decode MJce.2.1 0 = .ok (.iload_n 0, 1) := by decide +kernel
theorem jd_ce_1 : decode MJce.2.1 1 = .ok (.ifCond .lt 14, 3) := by decide +kernel
theorem jd_ce_4 : decode MJce.2.1 4 = .ok (.iload_n 0, 1) := by decide +kernel
theorem jd_ce_5 : decode MJce.2.1 5 = .ok (.sipush 255, 3) := by decide +kernel
theorem jd_ce_8 : decode MJce.2.1 8 = .ok (.if_icmp .gt 7, 3) := by decide +kernel
theorem jd_ce_11 : decode MJce.2.1 11 = .ok (.iconst 1, 1) := by decide +kernel
theorem jd_ce_12 : decode MJce.2.1 12 = .ok (.goto 4, 3) := by decide +kernel
theorem jd_ce_15 : decode MJce.2.1 15 = .ok (.iconst 0, 1) := by decide +kernel
theorem jd_ce_16 : decode MJce.2.1 16 = .ok (.ireturn, 1) := by decide +kernel
theorem jd_li_0 : decode MJli.2.1 0 = .ok (.iload_n 1, 1) := by decide +kernel
theorem jd_li_1 : decode MJli.2.1 1 = .ok (.invokestatic 88, 3) := by decide +kernel
theorem jd_li_4 : decode MJli.2.1 4 = .ok (.ifCond .ne 5, 3) := by decide +kernel
theorem jd_li_7 : decode MJli.2.1 7 = .ok (.iconst (-1), 1) := by decide +kernel
theorem jd_li_8 : decode MJli.2.1 8 = .ok (.ireturn, 1) := by decide +kernel
theorem jd_li_9 : decode MJli.2.1 9 = .ok (.iload_n 2, 1) := by decide +kernel
theorem jd_li_10 : decode MJli.2.1 10 = .ok (.iconst 0, 1) := by decide +kernel
theorem jd_li_11 : decode MJli.2.1 11 = .ok (.invokestatic 92, 3) := by decide +kernel
theorem jd_li_14 : decode MJli.2.1 14 = .ok (.istore_n 2, 1) := by decide +kernel
theorem jd_li_15 : decode MJli.2.1 15 = .ok (.iload_n 3, 1) := by decide +kernel
theorem jd_li_16 : decode MJli.2.1 16 = .ok (.aload_n 0, 1) := by decide +kernel
theorem jd_li_17 : decode MJli.2.1 17 = .ok (.arraylength, 1) := by decide +kernel
theorem jd_li_18 : decode MJli.2.1 18 = .ok (.invokestatic 38, 3) := by decide +kernel
theorem jd_li_21 : decode MJli.2.1 21 = .ok (.istore_n 3, 1) := by decide +kernel
theorem jd_li_22 : decode MJli.2.1 22 = .ok (.iload_n 2, 1) := by decide +kernel
theorem jd_li_23 : decode MJli.2.1 23 = .ok (.iload_n 3, 1) := by decide +kernel
theorem jd_li_24 : decode MJli.2.1 24 = .ok (.if_icmp .lt 5, 3) := by decide +kernel
theorem jd_li_27 : decode MJli.2.1 27 = .ok (.iconst (-1), 1) := by decide +kernel
theorem jd_li_28 : decode MJli.2.1 28 = .ok (.ireturn, 1) := by decide +kernel
theorem jd_li_29 : decode MJli.2.1 29 = .ok (.aload_n 0, 1) := by decide +kernel
theorem jd_li_30 : decode MJli.2.1 30 = .ok (.iload_n 1, 1) := by decide +kernel
theorem jd_li_31 : decode MJli.2.1 31 = .ok (.iload_n 2, 1) := by decide +kernel
theorem jd_li_32 : decode MJli.2.1 32 = .ok (.iload_n 3, 1) := by decide +kernel
theorem jd_li_33 : decode MJli.2.1 33 = .ok (.invokestatic 95, 3) := by decide +kernel
theorem jd_li_36 : decode MJli.2.1 36 = .ok (.ireturn, 1) := by decide +kernel
theorem jd_ic_0 : decode MJic.2.1 0 = .ok (.iload_n 1, 1) := by decide +kernel
theorem jd_ic_1 : decode MJic.2.1 1 = .ok (.i2b, 1) := by decide +kernel
theorem jd_ic_2 : decode MJic.2.1 2 = .ok (.istore 4, 2) := by decide +kernel
theorem jd_ic_4 : decode MJic.2.1 4 = .ok (.iload_n 2, 1) := by decide +kernel
theorem jd_ic_5 : decode MJic.2.1 5 = .ok (.istore 5, 2) := by decide +kernel
theorem jd_ic_7 : decode MJic.2.1 7 = .ok (.iload 5, 2) := by decide +kernel
theorem jd_ic_9 : decode MJic.2.1 9 = .ok (.iload_n 3, 1) := by decide +kernel
theorem jd_ic_10 : decode MJic.2.1 10 = .ok (.if_icmp .ge 21, 3) := by decide +kernel
theorem jd_ic_13 : decode MJic.2.1 13 = .ok (.aload_n 0, 1) := by decide +kernel
theorem jd_ic_14 : decode MJic.2.1 14 = .ok (.iload 5, 2) := by decide +kernel
theorem jd_ic_16 : decode MJic.2.1 16 = .ok (.baload, 1) := by decide +kernel
theorem jd_ic_17 : decode MJic.2.1 17 = .ok (.iload 4, 2) := by decide +kernel
theorem jd_ic_19 : decode MJic.2.1 19 = .ok (.if_icmp .ne 6, 3) := by decide +kernel
theorem jd_ic_22 : decode MJic.2.1 22 = .ok (.iload 5, 2) := by decide +kernel
theorem jd_ic_24 : decode MJic.2.1 24 = .ok (.ireturn, 1) := by decide +kernel
theorem jd_ic_25 : decode MJic.2.1 25 = .ok (.iinc 5 1, 3) := by decide +kernel
theorem jd_ic_28 : decode MJic.2.1 28 = .ok (.goto (-21), 3) := by decide +kernel
theorem jd_ic_31 : decode MJic.2.1 31 = .ok (.iconst (-1), 1) := by decide +kernel
theorem jd_ic_32 : decode MJic.2.1 32 = .ok (.ireturn, 1) := by decide +kernel
theorem jd_pc_0 : decode MJpc.2.1 0 = .ok (.iload_n 0, 1) := by decide +kernel
theorem jd_pc_1 : decode MJpc.2.1 1 = .ok (.ifCond .lt 8, 3) := by decide +kernel
theorem jd_pc_4 : decode MJpc.2.1 4 = .ok (.iload_n 0, 1) := by decide +kernel
theorem jd_pc_5 : decode MJpc.2.1 5 = .ok (.iload_n 1, 1) := by decide +kernel
theorem jd_pc_6 : decode MJpc.2.1 6 = .ok (.if_icmp .lt 10, 3) := by decide +kernel
theorem jd_pc_9 : decode MJpc.2.1 9 = .ok (.aload_n 2, 1) := by decide +kernel
theorem jd_pc_10 : decode MJpc.2.1 10 = .ok (.iload_n 0, 1) := by decide +kernel
theorem jd_pc_11 : decode MJpc.2.1 11 = .ok (.iload_n 1, 1) := by decide +kernel
theorem jd_pc_12 : decode MJpc.2.1 12 = .ok (.invokestatic 95, 3) := by decide +kernel
theorem jd_pc_15 : decode MJpc.2.1 15 = .ok (.athrow, 1) := by decide +kernel
theorem jd_pc_16 : decode MJpc.2.1 16 = .ok (.iload_n 0, 1) := by decide +kernel
theorem jd_pc_17 : decode MJpc.2.1 17 = .ok (.ireturn, 1) := by decide +kernel
