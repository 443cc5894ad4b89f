theorem goodIn_cons1 {big : List Cond} {c : Cond} {ws : List Cond} (h : GoodIn big [c]) (hw : GoodIn big ws) : GoodIn big (c :: ws) := fun w hm => (List.mem_cons.mp hm).elim (fun e => h w (List.mem_singleton.mpr e)) (hw w)
theorem dX0_init_0 : decode cX0_init 0 = .ok (.aload_n 0, 1) := by decide +kernel
theorem dX0_init_1 : decode cX0_init 1 = .ok (.invokespecial 3, 3) := by decide +kernel
theorem dX0_init_4 : decode cX0_init 4 = .ok (.aload_n 0, 1) := by decide +kernel
theorem dX0_init_5 : decode cX0_init 5 = .ok (.bipush 12, 2) := by decide +kernel
theorem dX0_init_7 : decode cX0_init 7 = .ok (.newarray .char, 2) := by decide +kernel
theorem dX0_init_9 : decode cX0_init 9 = .ok (.putfield 9, 3) := by decide +kernel
theorem dX0_init_12 : decode cX0_init 12 = .ok (.aload_n 0, 1) := by decide +kernel
theorem dX0_init_13 : decode cX0_init 13 = .ok (.bipush 12, 2) := by decide +kernel
theorem dX0_init_15 : decode cX0_init 15 = .ok (.newarray .int, 2) := by decide +kernel
theorem dX0_init_17 : decode cX0_init 17 = .ok (.putfield 15, 3) := by decide +kernel
theorem dX0_init_20 : decode cX0_init 20 = .ok (.aload_n 0, 1) := by decide +kernel
theorem dX0_init_21 : decode cX0_init 21 = .ok (.bipush 12, 2) := by decide +kernel
theorem dX0_init_23 : decode cX0_init 23 = .ok (.newarray .int, 2) := by decide +kernel
theorem dX0_init_25 : decode cX0_init 25 = .ok (.putfield 19, 3) := by decide +kernel
theorem dX0_init_28 : decode cX0_init 28 = .ok (.aload_n 0, 1) := by decide +kernel
theorem dX0_init_29 : decode cX0_init 29 = .ok (.bipush 12, 2) := by decide +kernel
theorem dX0_init_31 : decode cX0_init 31 = .ok (.newarray .int, 2) := by decide +kernel
theorem dX0_init_33 : decode cX0_init 33 = .ok (.putfield 22, 3) := by decide +kernel
theorem dX0_init_36 : decode cX0_init 36 = .ok (.return_, 1) := by decide +kernel
theorem dX0_hasOverdue_0 : decode cX0_hasOverdue 0 = .ok (.iconst 0, 1) := by decide +kernel
theorem dX0_hasOverdue_1 : decode cX0_hasOverdue 1 = .ok (.istore_n 2, 1) := by decide +kernel
theorem dX0_hasOverdue_2 : decode cX0_hasOverdue 2 = .ok (.iload_n 2, 1) := by decide +kernel
theorem dX0_hasOverdue_3 : decode cX0_hasOverdue 3 = .ok (.aload_n 0, 1) := by decide +kernel
theorem dX0_hasOverdue_4 : decode cX0_hasOverdue 4 = .ok (.getfield 25, 3) := by decide +kernel
theorem dX0_hasOverdue_7 : decode cX0_hasOverdue 7 = .ok (.if_icmp .ge 30, 3) := by decide +kernel
theorem dX0_hasOverdue_37 : decode cX0_hasOverdue 37 = .ok (.iconst 0, 1) := by decide +kernel
theorem dX0_hasOverdue_38 : decode cX0_hasOverdue 38 = .ok (.ireturn, 1) := by decide +kernel
theorem dX1_init_0 : decode cX1_init 0 = .ok (.aload_n 0, 1) := by decide +kernel
theorem dX1_init_1 : decode cX1_init 1 = .ok (.invokespecial 3, 3) := by decide +kernel
theorem dX1_init_4 : decode cX1_init 4 = .ok (.aload_n 0, 1) := by decide +kernel
theorem dX1_init_5 : decode cX1_init 5 = .ok (.bipush 6, 2) := by decide +kernel
theorem dX1_init_7 : decode cX1_init 7 = .ok (.newarray .int, 2) := by decide +kernel
theorem dX1_init_9 : decode cX1_init 9 = .ok (.putfield 9, 3) := by decide +kernel
theorem dX1_init_12 : decode cX1_init 12 = .ok (.aload_n 0, 1) := by decide +kernel
theorem dX1_init_13 : decode cX1_init 13 = .ok (.bipush 6, 2) := by decide +kernel
theorem dX1_init_15 : decode cX1_init 15 = .ok (.newarray .char, 2) := by decide +kernel
theorem dX1_init_17 : decode cX1_init 17 = .ok (.putfield 15, 3) := by decide +kernel
theorem dX1_init_20 : decode cX1_init 20 = .ok (.aload_n 0, 1) := by decide +kernel
theorem dX1_init_21 : decode cX1_init 21 = .ok (.bipush 6, 2) := by decide +kernel
theorem dX1_init_23 : decode cX1_init 23 = .ok (.newarray .int, 2) := by decide +kernel
theorem dX1_init_25 : decode cX1_init 25 = .ok (.putfield 19, 3) := by decide +kernel
theorem dX1_init_28 : decode cX1_init 28 = .ok (.aload_n 0, 1) := by decide +kernel
theorem dX1_init_29 : decode cX1_init 29 = .ok (.bipush 6, 2) := by decide +kernel
theorem dX1_init_31 : decode cX1_init 31 = .ok (.newarray .boolean, 2) := by decide +kernel
theorem dX1_init_33 : decode cX1_init 33 = .ok (.putfield 22, 3) := by decide +kernel
theorem dX1_init_36 : decode cX1_init 36 = .ok (.return_, 1) := by decide +kernel
theorem dX1_alive_0 : decode cX1_alive 0 = .ok (.aload_n 0, 1) := by decide +kernel
theorem dX1_alive_1 : decode cX1_alive 1 = .ok (.getfield 26, 3) := by decide +kernel
theorem dX1_alive_4 : decode cX1_alive 4 = .ok (.aload_n 0, 1) := by decide +kernel
theorem dX1_alive_5 : decode cX1_alive 5 = .ok (.getfield 30, 3) := by decide +kernel
theorem dX1_alive_8 : decode cX1_alive 8 = .ok (.isub, 1) := by decide +kernel
theorem dX1_alive_9 : decode cX1_alive 9 = .ok (.ireturn, 1) := by decide +kernel
theorem dX1_breathe_0 : decode cX1_breathe 0 = .ok (.iconst 0, 1) := by decide +kernel
theorem dX1_breathe_1 : decode cX1_breathe 1 = .ok (.istore 4, 2) := by decide +kernel
theorem dX1_breathe_3 : decode cX1_breathe 3 = .ok (.iload 4, 2) := by decide +kernel
theorem dX1_breathe_5 : decode cX1_breathe 5 = .ok (.aload_n 0, 1) := by decide +kernel
theorem dX1_breathe_6 : decode cX1_breathe 6 = .ok (.getfield 26, 3) := by decide +kernel
theorem dX1_breathe_9 : decode cX1_breathe 9 = .ok (.if_icmp .ge 117, 3) := by decide +kernel
theorem dX1_breathe_126 : decode cX1_breathe 126 = .ok (.return_, 1) := by decide +kernel
theorem dX1_isInDanger_0 : decode cX1_isInDanger 0 = .ok (.iconst 0, 1) := by decide +kernel
theorem dX1_isInDanger_1 : decode cX1_isInDanger 1 = .ok (.istore_n 2, 1) := by decide +kernel
theorem dX1_isInDanger_2 : decode cX1_isInDanger 2 = .ok (.iload_n 2, 1) := by decide +kernel
theorem dX1_isInDanger_3 : decode cX1_isInDanger 3 = .ok (.aload_n 0, 1) := by decide +kernel
theorem dX1_isInDanger_4 : decode cX1_isInDanger 4 = .ok (.getfield 26, 3) := by decide +kernel
theorem dX1_isInDanger_7 : decode cX1_isInDanger 7 = .ok (.if_icmp .ge 33, 3) := by decide +kernel
theorem dX1_isInDanger_40 : decode cX1_isInDanger 40 = .ok (.iconst 0, 1) := by decide +kernel
theorem dX1_isInDanger_41 : decode cX1_isInDanger 41 = .ok (.ireturn, 1) := by decide +kernel
theorem dX2_init_0 : decode cX2_init 0 = .ok (.aload_n 0, 1) := by decide +kernel
theorem dX2_init_1 : decode cX2_init 1 = .ok (.invokespecial 3, 3) := by decide +kernel
theorem dX2_init_4 : decode cX2_init 4 = .ok (.aload_n 0, 1) := by decide +kernel
theorem dX2_init_5 : decode cX2_init 5 = .ok (.bipush 8, 2) := by decide +kernel
theorem dX2_init_7 : decode cX2_init 7 = .ok (.newarray .char, 2) := by decide +kernel
theorem dX2_init_9 : decode cX2_init 9 = .ok (.putfield 9, 3) := by decide +kernel
theorem dX2_init_12 : decode cX2_init 12 = .ok (.aload_n 0, 1) := by decide +kernel
theorem dX2_init_13 : decode cX2_init 13 = .ok (.bipush 8, 2) := by decide +kernel
theorem dX2_init_15 : decode cX2_init 15 = .ok (.newarray .int, 2) := by decide +kernel
theorem dX2_init_17 : decode cX2_init 17 = .ok (.putfield 15, 3) := by decide +kernel
theorem dX2_init_20 : decode cX2_init 20 = .ok (.aload_n 0, 1) := by decide +kernel
theorem dX2_init_21 : decode cX2_init 21 = .ok (.bipush 8, 2) := by decide +kernel
theorem dX2_init_23 : decode cX2_init 23 = .ok (.newarray .boolean, 2) := by decide +kernel
theorem dX2_init_25 : decode cX2_init 25 = .ok (.putfield 19, 3) := by decide +kernel
theorem dX2_init_28 : decode cX2_init 28 = .ok (.aload_n 0, 1) := by decide +kernel
theorem dX2_init_29 : decode cX2_init 29 = .ok (.iconst (-1), 1) := by decide +kernel
theorem dX2_init_30 : decode cX2_init 30 = .ok (.putfield 23, 3) := by decide +kernel
theorem dX2_init_33 : decode cX2_init 33 = .ok (.return_, 1) := by decide +kernel
theorem dX3_init_0 : decode cX3_init 0 = .ok (.aload_n 0, 1) := by decide +kernel
theorem dX3_init_1 : decode cX3_init 1 = .ok (.invokespecial 1, 3) := by decide +kernel
theorem dX3_init_4 : decode cX3_init 4 = .ok (.aload_n 0, 1) := by decide +kernel
theorem dX3_init_5 : decode cX3_init 5 = .ok (.iload_n 1, 1) := by decide +kernel
theorem dX3_init_6 : decode cX3_init 6 = .ok (.ifCond .ge 7, 3) := by decide +kernel
theorem dX3_init_13 : decode cX3_init 13 = .ok (.iload_n 1, 1) := by decide +kernel
theorem dX3_init_14 : decode cX3_init 14 = .ok (.newarray .char, 2) := by decide +kernel
theorem dX3_init_16 : decode cX3_init 16 = .ok (.putfield 7, 3) := by decide +kernel
theorem dX3_init_19 : decode cX3_init 19 = .ok (.return_, 1) := by decide +kernel
theorem dX4_init_0 : decode cX4_init 0 = .ok (.aload_n 0, 1) := by decide +kernel
theorem dX4_init_1 : decode cX4_init 1 = .ok (.invokespecial 3, 3) := by decide +kernel
theorem dX4_init_4 : decode cX4_init 4 = .ok (.aload_n 0, 1) := by decide +kernel
theorem dX4_init_5 : decode cX4_init 5 = .ok (.bipush 8, 2) := by decide +kernel
theorem dX4_init_7 : decode cX4_init 7 = .ok (.newarray .int, 2) := by decide +kernel
theorem dX4_init_9 : decode cX4_init 9 = .ok (.putfield 9, 3) := by decide +kernel
theorem dX4_init_12 : decode cX4_init 12 = .ok (.aload_n 0, 1) := by decide +kernel
theorem dX4_init_13 : decode cX4_init 13 = .ok (.bipush 8, 2) := by decide +kernel
theorem dX4_init_15 : decode cX4_init 15 = .ok (.newarray .int, 2) := by decide +kernel
theorem dX4_init_17 : decode cX4_init 17 = .ok (.putfield 15, 3) := by decide +kernel
theorem dX4_init_20 : decode cX4_init 20 = .ok (.aload_n 0, 1) := by decide +kernel
theorem dX4_init_21 : decode cX4_init 21 = .ok (.bipush 8, 2) := by decide +kernel
theorem dX4_init_23 : decode cX4_init 23 = .ok (.newarray .boolean, 2) := by decide +kernel
theorem dX4_init_25 : decode cX4_init 25 = .ok (.putfield 18, 3) := by decide +kernel
theorem dX4_init_28 : decode cX4_init 28 = .ok (.return_, 1) := by decide +kernel
theorem dX5_init_0 : decode cX5_init 0 = .ok (.aload_n 0, 1) := by decide +kernel
theorem dX5_init_1 : decode cX5_init 1 = .ok (.invokespecial 3, 3) := by decide +kernel
theorem dX5_init_4 : decode cX5_init 4 = .ok (.aload_n 0, 1) := by decide +kernel
theorem dX5_init_5 : decode cX5_init 5 = .ok (.bipush 6, 2) := by decide +kernel
theorem dX5_init_7 : decode cX5_init 7 = .ok (.newarray .int, 2) := by decide +kernel
theorem dX5_init_9 : decode cX5_init 9 = .ok (.putfield 9, 3) := by decide +kernel
theorem dX5_init_12 : decode cX5_init 12 = .ok (.aload_n 0, 1) := by decide +kernel
theorem dX5_init_13 : decode cX5_init 13 = .ok (.bipush 6, 2) := by decide +kernel
theorem dX5_init_15 : decode cX5_init 15 = .ok (.newarray .int, 2) := by decide +kernel
theorem dX5_init_17 : decode cX5_init 17 = .ok (.putfield 15, 3) := by decide +kernel
theorem dX5_init_20 : decode cX5_init 20 = .ok (.aload_n 0, 1) := by decide +kernel
theorem dX5_init_21 : decode cX5_init 21 = .ok (.bipush 6, 2) := by decide +kernel
theorem dX5_init_23 : decode cX5_init 23 = .ok (.newarray .int, 2) := by decide +kernel
theorem dX5_init_25 : decode cX5_init 25 = .ok (.putfield 18, 3) := by decide +kernel
theorem dX5_init_28 : decode cX5_init 28 = .ok (.return_, 1) := by decide +kernel
theorem dX5_isFull_0 : decode cX5_isFull 0 = .ok (.aload_n 0, 1) := by decide +kernel
theorem dX5_isFull_1 : decode cX5_isFull 1 = .ok (.getfield 21, 3) := by decide +kernel
theorem dX5_isFull_4 : decode cX5_isFull 4 = .ok (.bipush 6, 2) := by decide +kernel
theorem dX5_isFull_6 : decode cX5_isFull 6 = .ok (.if_icmp .lt 7, 3) := by decide +kernel
theorem dX5_isFull_13 : decode cX5_isFull 13 = .ok (.iconst 0, 1) := by decide +kernel
theorem dX5_isFull_14 : decode cX5_isFull 14 = .ok (.ireturn, 1) := by decide +kernel
theorem dX5_add_0 : decode cX5_add 0 = .ok (.aload_n 0, 1) := by decide +kernel
theorem dX5_add_1 : decode cX5_add 1 = .ok (.getfield 9, 3) := by decide +kernel
theorem dX5_add_4 : decode cX5_add 4 = .ok (.aload_n 0, 1) := by decide +kernel
theorem dX5_add_5 : decode cX5_add 5 = .ok (.getfield 21, 3) := by decide +kernel
theorem dX5_add_8 : decode cX5_add 8 = .ok (.iload_n 1, 1) := by decide +kernel
theorem dX5_add_9 : decode cX5_add 9 = .ok (.iastore, 1) := by decide +kernel
theorem dX5_add_10 : decode cX5_add 10 = .ok (.aload_n 0, 1) := by decide +kernel
theorem dX5_add_11 : decode cX5_add 11 = .ok (.dup, 1) := by decide +kernel
theorem dX5_add_12 : decode cX5_add 12 = .ok (.getfield 21, 3) := by decide +kernel
theorem dX5_add_15 : decode cX5_add 15 = .ok (.iconst 1, 1) := by decide +kernel
theorem dX5_add_16 : decode cX5_add 16 = .ok (.iadd, 1) := by decide +kernel
theorem dX5_add_17 : decode cX5_add 17 = .ok (.putfield 21, 3) := by decide +kernel
theorem dX5_add_20 : decode cX5_add 20 = .ok (.aload_n 0, 1) := by decide +kernel
theorem dX5_add_21 : decode cX5_add 21 = .ok (.getfield 21, 3) := by decide +kernel
theorem dX5_add_24 : decode cX5_add 24 = .ok (.iconst 1, 1) := by decide +kernel
theorem dX5_add_25 : decode cX5_add 25 = .ok (.isub, 1) := by decide +kernel
theorem dX5_add_26 : decode cX5_add 26 = .ok (.ireturn, 1) := by decide +kernel
theorem dX5_leakOut_0 : decode cX5_leakOut 0 = .ok (.iconst 0, 1) := by decide +kernel
theorem dX5_leakOut_1 : decode cX5_leakOut 1 = .ok (.istore_n 1, 1) := by decide +kernel
theorem dX5_leakOut_2 : decode cX5_leakOut 2 = .ok (.iload_n 1, 1) := by decide +kernel
theorem dX5_leakOut_3 : decode cX5_leakOut 3 = .ok (.aload_n 0, 1) := by decide +kernel
theorem dX5_leakOut_4 : decode cX5_leakOut 4 = .ok (.getfield 21, 3) := by decide +kernel
theorem dX5_leakOut_7 : decode cX5_leakOut 7 = .ok (.if_icmp .ge 45, 3) := by decide +kernel
theorem dX5_leakOut_52 : decode cX5_leakOut 52 = .ok (.return_, 1) := by decide +kernel
theorem dX5_oxygenSum_0 : decode cX5_oxygenSum 0 = .ok (.iconst 0, 1) := by decide +kernel
theorem dX5_oxygenSum_1 : decode cX5_oxygenSum 1 = .ok (.istore_n 1, 1) := by decide +kernel
theorem dX5_oxygenSum_2 : decode cX5_oxygenSum 2 = .ok (.iconst 0, 1) := by decide +kernel
theorem dX5_oxygenSum_3 : decode cX5_oxygenSum 3 = .ok (.istore_n 2, 1) := by decide +kernel
theorem dX5_oxygenSum_4 : decode cX5_oxygenSum 4 = .ok (.iload_n 2, 1) := by decide +kernel
theorem dX5_oxygenSum_5 : decode cX5_oxygenSum 5 = .ok (.aload_n 0, 1) := by decide +kernel
theorem dX5_oxygenSum_6 : decode cX5_oxygenSum 6 = .ok (.getfield 21, 3) := by decide +kernel
theorem dX5_oxygenSum_9 : decode cX5_oxygenSum 9 = .ok (.if_icmp .ge 18, 3) := by decide +kernel
theorem dX5_oxygenSum_27 : decode cX5_oxygenSum 27 = .ok (.iload_n 1, 1) := by decide +kernel
theorem dX5_oxygenSum_28 : decode cX5_oxygenSum 28 = .ok (.ireturn, 1) := by decide +kernel
theorem dX5_carbonSum_0 : decode cX5_carbonSum 0 = .ok (.iconst 0, 1) := by decide +kernel
theorem dX5_carbonSum_1 : decode cX5_carbonSum 1 = .ok (.istore_n 1, 1) := by decide +kernel
theorem dX5_carbonSum_2 : decode cX5_carbonSum 2 = .ok (.iconst 0, 1) := by decide +kernel
theorem dX5_carbonSum_3 : decode cX5_carbonSum 3 = .ok (.istore_n 2, 1) := by decide +kernel
theorem dX5_carbonSum_4 : decode cX5_carbonSum 4 = .ok (.iload_n 2, 1) := by decide +kernel
theorem dX5_carbonSum_5 : decode cX5_carbonSum 5 = .ok (.aload_n 0, 1) := by decide +kernel
theorem dX5_carbonSum_6 : decode cX5_carbonSum 6 = .ok (.getfield 21, 3) := by decide +kernel
theorem dX5_carbonSum_9 : decode cX5_carbonSum 9 = .ok (.if_icmp .ge 18, 3) := by decide +kernel
theorem dX5_carbonSum_27 : decode cX5_carbonSum 27 = .ok (.iload_n 1, 1) := by decide +kernel
theorem dX5_carbonSum_28 : decode cX5_carbonSum 28 = .ok (.ireturn, 1) := by decide +kernel
theorem dX6_init_0 : decode cX6_init 0 = .ok (.aload_n 0, 1) := by decide +kernel
theorem dX6_init_1 : decode cX6_init 1 = .ok (.invokespecial 3, 3) := by decide +kernel
theorem dX6_init_4 : decode cX6_init 4 = .ok (.aload_n 0, 1) := by decide +kernel
theorem dX6_init_5 : decode cX6_init 5 = .ok (.iconst 4, 1) := by decide +kernel
theorem dX6_init_6 : decode cX6_init 6 = .ok (.newarray .int, 2) := by decide +kernel
theorem dX6_init_8 : decode cX6_init 8 = .ok (.putfield 9, 3) := by decide +kernel
theorem dX6_init_11 : decode cX6_init 11 = .ok (.aload_n 0, 1) := by decide +kernel
theorem dX6_init_12 : decode cX6_init 12 = .ok (.iconst 4, 1) := by decide +kernel
theorem dX6_init_13 : decode cX6_init 13 = .ok (.newarray .int, 2) := by decide +kernel
theorem dX6_init_15 : decode cX6_init 15 = .ok (.putfield 15, 3) := by decide +kernel
theorem dX6_init_18 : decode cX6_init 18 = .ok (.aload_n 0, 1) := by decide +kernel
theorem dX6_init_19 : decode cX6_init 19 = .ok (.iconst 4, 1) := by decide +kernel
theorem dX6_init_20 : decode cX6_init 20 = .ok (.newarray .int, 2) := by decide +kernel
theorem dX6_init_22 : decode cX6_init 22 = .ok (.putfield 18, 3) := by decide +kernel
theorem dX6_init_25 : decode cX6_init 25 = .ok (.aload_n 0, 1) := by decide +kernel
theorem dX6_init_26 : decode cX6_init 26 = .ok (.iconst 4, 1) := by decide +kernel
theorem dX6_init_27 : decode cX6_init 27 = .ok (.newarray .int, 2) := by decide +kernel
theorem dX6_init_29 : decode cX6_init 29 = .ok (.putfield 21, 3) := by decide +kernel
theorem dX6_init_32 : decode cX6_init 32 = .ok (.aload_n 0, 1) := by decide +kernel
theorem dX6_init_33 : decode cX6_init 33 = .ok (.iconst 4, 1) := by decide +kernel
theorem dX6_init_34 : decode cX6_init 34 = .ok (.newarray .boolean, 2) := by decide +kernel
theorem dX6_init_36 : decode cX6_init 36 = .ok (.putfield 24, 3) := by decide +kernel
theorem dX6_init_39 : decode cX6_init 39 = .ok (.return_, 1) := by decide +kernel
theorem dX6_isFull_0 : decode cX6_isFull 0 = .ok (.aload_n 0, 1) := by decide +kernel
theorem dX6_isFull_1 : decode cX6_isFull 1 = .ok (.getfield 28, 3) := by decide +kernel
theorem dX6_isFull_4 : decode cX6_isFull 4 = .ok (.iconst 4, 1) := by decide +kernel
theorem dX6_isFull_5 : decode cX6_isFull 5 = .ok (.if_icmp .lt 7, 3) := by decide +kernel
theorem dX6_isFull_12 : decode cX6_isFull 12 = .ok (.iconst 0, 1) := by decide +kernel
theorem dX6_isFull_13 : decode cX6_isFull 13 = .ok (.ireturn, 1) := by decide +kernel
theorem dX6_add_0 : decode cX6_add 0 = .ok (.aload_n 0, 1) := by decide +kernel
theorem dX6_add_1 : decode cX6_add 1 = .ok (.getfield 9, 3) := by decide +kernel
theorem dX6_add_4 : decode cX6_add 4 = .ok (.aload_n 0, 1) := by decide +kernel
theorem dX6_add_5 : decode cX6_add 5 = .ok (.getfield 28, 3) := by decide +kernel
theorem dX6_add_8 : decode cX6_add 8 = .ok (.iload_n 1, 1) := by decide +kernel
theorem dX6_add_9 : decode cX6_add 9 = .ok (.iastore, 1) := by decide +kernel
theorem dX6_add_10 : decode cX6_add 10 = .ok (.aload_n 0, 1) := by decide +kernel
theorem dX6_add_11 : decode cX6_add 11 = .ok (.getfield 21, 3) := by decide +kernel
theorem dX6_add_14 : decode cX6_add 14 = .ok (.aload_n 0, 1) := by decide +kernel
theorem dX6_add_15 : decode cX6_add 15 = .ok (.getfield 28, 3) := by decide +kernel
theorem dX6_add_18 : decode cX6_add 18 = .ok (.iload_n 2, 1) := by decide +kernel
theorem dX6_add_19 : decode cX6_add 19 = .ok (.iastore, 1) := by decide +kernel
theorem dX6_add_20 : decode cX6_add 20 = .ok (.aload_n 0, 1) := by decide +kernel
theorem dX6_add_21 : decode cX6_add 21 = .ok (.getfield 18, 3) := by decide +kernel
theorem dX6_add_24 : decode cX6_add 24 = .ok (.aload_n 0, 1) := by decide +kernel
theorem dX6_add_25 : decode cX6_add 25 = .ok (.getfield 28, 3) := by decide +kernel
theorem dX6_add_28 : decode cX6_add 28 = .ok (.bipush 20, 2) := by decide +kernel
theorem dX6_add_30 : decode cX6_add 30 = .ok (.iastore, 1) := by decide +kernel
theorem dX6_add_31 : decode cX6_add 31 = .ok (.aload_n 0, 1) := by decide +kernel
theorem dX6_add_32 : decode cX6_add 32 = .ok (.dup, 1) := by decide +kernel
theorem dX6_add_33 : decode cX6_add 33 = .ok (.getfield 28, 3) := by decide +kernel
theorem dX6_add_36 : decode cX6_add 36 = .ok (.iconst 1, 1) := by decide +kernel
theorem dX6_add_37 : decode cX6_add 37 = .ok (.iadd, 1) := by decide +kernel
theorem dX6_add_38 : decode cX6_add 38 = .ok (.putfield 28, 3) := by decide +kernel
theorem dX6_add_41 : decode cX6_add 41 = .ok (.aload_n 0, 1) := by decide +kernel
theorem dX6_add_42 : decode cX6_add 42 = .ok (.getfield 28, 3) := by decide +kernel
theorem dX6_add_45 : decode cX6_add 45 = .ok (.iconst 1, 1) := by decide +kernel
theorem dX6_add_46 : decode cX6_add 46 = .ok (.isub, 1) := by decide +kernel
theorem dX6_add_47 : decode cX6_add 47 = .ok (.ireturn, 1) := by decide +kernel
theorem dX6_advance_0 : decode cX6_advance 0 = .ok (.iconst 0, 1) := by decide +kernel
theorem dX6_advance_1 : decode cX6_advance 1 = .ok (.istore_n 2, 1) := by decide +kernel
theorem dX6_advance_2 : decode cX6_advance 2 = .ok (.iconst 0, 1) := by decide +kernel
theorem dX6_advance_3 : decode cX6_advance 3 = .ok (.istore_n 3, 1) := by decide +kernel
theorem dX6_advance_4 : decode cX6_advance 4 = .ok (.iload_n 3, 1) := by decide +kernel
theorem dX6_advance_5 : decode cX6_advance 5 = .ok (.aload_n 0, 1) := by decide +kernel
theorem dX6_advance_6 : decode cX6_advance 6 = .ok (.getfield 28, 3) := by decide +kernel
theorem dX6_advance_9 : decode cX6_advance 9 = .ok (.if_icmp .ge 51, 3) := by decide +kernel
theorem dX6_advance_60 : decode cX6_advance 60 = .ok (.iload_n 2, 1) := by decide +kernel
theorem dX6_advance_61 : decode cX6_advance 61 = .ok (.ireturn, 1) := by decide +kernel
set_option maxRecDepth 20000 in
theorem ggX7_init_X5_init : GoodIn wsX7_init wsX5_init := goodIn_r _ [37, 38, 2, 3, 39, 40, 41, 42, 85, 86, 87, 88, 89] (by decide +kernel) (by decide +kernel)
set_option maxRecDepth 20000 in
theorem gX7_init_X5_init_n11 : GoodIn wsX7_init (wsX5_init) := ggX7_init_X5_init
set_option maxRecDepth 20000 in
theorem ggX7_init_X4_init : GoodIn wsX7_init wsX4_init := goodIn_r _ [44, 45, 2, 3, 39, 46, 47, 48, 49, 104, 105, 106, 107] (by decide +kernel) (by decide +kernel)
set_option maxRecDepth 20000 in
theorem gX7_init_X4_init_n20 : GoodIn wsX7_init (wsX4_init) := ggX7_init_X4_init
set_option maxRecDepth 20000 in
theorem ggX7_init_X2_init : GoodIn wsX7_init wsX2_init := goodIn_r _ [51, 52, 2, 3, 53, 54, 39, 55, 48, 56, 57, 108, 109, 110, 111, 112] (by decide +kernel) (by decide +kernel)
set_option maxRecDepth 20000 in
theorem gX7_init_X2_init_n27 : GoodIn wsX7_init (wsX2_init) := ggX7_init_X2_init
set_option maxRecDepth 20000 in
theorem ggX7_init_X1_init : GoodIn wsX7_init wsX1_init := goodIn_r _ [59, 60, 2, 3, 39, 61, 53, 62, 63, 48, 64, 113, 114, 115, 116, 117, 118] (by decide +kernel) (by decide +kernel)
set_option maxRecDepth 20000 in
theorem gX7_init_X1_init_n34 : GoodIn wsX7_init (wsX1_init) := ggX7_init_X1_init
set_option maxRecDepth 20000 in
theorem ggX7_init_X0_init : GoodIn wsX7_init wsX0_init := goodIn_r _ [66, 67, 2, 3, 53, 68, 39, 69, 70, 71, 119, 120, 121, 122, 123] (by decide +kernel) (by decide +kernel)
set_option maxRecDepth 20000 in
theorem gX7_init_X0_init_n41 : GoodIn wsX7_init (wsX0_init) := ggX7_init_X0_init
set_option maxRecDepth 20000 in
theorem ggX7_init_X6_init : GoodIn wsX7_init wsX6_init := goodIn_r _ [73, 74, 2, 3, 39, 75, 76, 77, 78, 48, 79, 124, 125, 126, 127, 128, 129] (by decide +kernel) (by decide +kernel)
set_option maxRecDepth 20000 in
theorem gX7_init_X6_init_n48 : GoodIn wsX7_init (wsX6_init) := ggX7_init_X6_init
set_option maxRecDepth 20000 in
theorem ggX7_init_X3_init : GoodIn wsX7_init wsX3_init := goodIn_r _ [82, 83, 2, 3, 53, 84, 130, 131] (by decide +kernel) (by decide +kernel)
set_option maxRecDepth 20000 in
theorem gX7_init_X3_init : GoodIn wsX7_init (wsX3_init) := ggX7_init_X3_init
theorem dX7_init_0 : decode cX7_init 0 = .ok (.aload_n 0, 1) := by decide +kernel
theorem dX7_init_1 : decode cX7_init 1 = .ok (.invokespecial 3, 3) := by decide +kernel
theorem dX7_init_4 : decode cX7_init 4 = .ok (.aload_n 0, 1) := by decide +kernel
theorem dX7_init_5 : decode cX7_init 5 = .ok (.new 9, 3) := by decide +kernel
theorem dX7_init_8 : decode cX7_init 8 = .ok (.dup, 1) := by decide +kernel
theorem dX7_init_9 : decode cX7_init 9 = .ok (.invokespecial 11, 3) := by decide +kernel
theorem dX7_init_12 : decode cX7_init 12 = .ok (.putfield 12, 3) := by decide +kernel
theorem dX7_init_15 : decode cX7_init 15 = .ok (.aload_n 0, 1) := by decide +kernel
theorem dX7_init_16 : decode cX7_init 16 = .ok (.new 18, 3) := by decide +kernel
theorem dX7_init_19 : decode cX7_init 19 = .ok (.dup, 1) := by decide +kernel
theorem dX7_init_20 : decode cX7_init 20 = .ok (.invokespecial 20, 3) := by decide +kernel
theorem dX7_init_23 : decode cX7_init 23 = .ok (.putfield 21, 3) := by decide +kernel
theorem dX7_init_26 : decode cX7_init 26 = .ok (.aload_n 0, 1) := by decide +kernel
theorem dX7_init_27 : decode cX7_init 27 = .ok (.new 25, 3) := by decide +kernel
theorem dX7_init_30 : decode cX7_init 30 = .ok (.dup, 1) := by decide +kernel
theorem dX7_init_31 : decode cX7_init 31 = .ok (.invokespecial 27, 3) := by decide +kernel
theorem dX7_init_34 : decode cX7_init 34 = .ok (.putfield 28, 3) := by decide +kernel
theorem dX7_init_37 : decode cX7_init 37 = .ok (.aload_n 0, 1) := by decide +kernel
theorem dX7_init_38 : decode cX7_init 38 = .ok (.new 32, 3) := by decide +kernel
theorem dX7_init_41 : decode cX7_init 41 = .ok (.dup, 1) := by decide +kernel
theorem dX7_init_42 : decode cX7_init 42 = .ok (.invokespecial 34, 3) := by decide +kernel
theorem dX7_init_45 : decode cX7_init 45 = .ok (.putfield 35, 3) := by decide +kernel
theorem dX7_init_48 : decode cX7_init 48 = .ok (.aload_n 0, 1) := by decide +kernel
theorem dX7_init_49 : decode cX7_init 49 = .ok (.new 39, 3) := by decide +kernel
theorem dX7_init_52 : decode cX7_init 52 = .ok (.dup, 1) := by decide +kernel
theorem dX7_init_53 : decode cX7_init 53 = .ok (.invokespecial 41, 3) := by decide +kernel
theorem dX7_init_56 : decode cX7_init 56 = .ok (.putfield 42, 3) := by decide +kernel
theorem dX7_init_59 : decode cX7_init 59 = .ok (.aload_n 0, 1) := by decide +kernel
theorem dX7_init_60 : decode cX7_init 60 = .ok (.new 46, 3) := by decide +kernel
theorem dX7_init_63 : decode cX7_init 63 = .ok (.dup, 1) := by decide +kernel
theorem dX7_init_64 : decode cX7_init 64 = .ok (.invokespecial 48, 3) := by decide +kernel
theorem dX7_init_67 : decode cX7_init 67 = .ok (.putfield 49, 3) := by decide +kernel
theorem dX7_init_70 : decode cX7_init 70 = .ok (.aload_n 0, 1) := by decide +kernel
theorem dX7_init_71 : decode cX7_init 71 = .ok (.bipush 10, 2) := by decide +kernel
theorem dX7_init_73 : decode cX7_init 73 = .ok (.putfield 53, 3) := by decide +kernel
theorem dX7_init_76 : decode cX7_init 76 = .ok (.aload_n 0, 1) := by decide +kernel
theorem dX7_init_77 : decode cX7_init 77 = .ok (.bipush 100, 2) := by decide +kernel
theorem dX7_init_79 : decode cX7_init 79 = .ok (.putfield 57, 3) := by decide +kernel
theorem dX7_init_82 : decode cX7_init 82 = .ok (.aload_n 0, 1) := by decide +kernel
theorem dX7_init_83 : decode cX7_init 83 = .ok (.bipush 50, 2) := by decide +kernel
theorem dX7_init_85 : decode cX7_init 85 = .ok (.putfield 60, 3) := by decide +kernel
theorem dX7_init_88 : decode cX7_init 88 = .ok (.aload_n 0, 1) := by decide +kernel
theorem dX7_init_89 : decode cX7_init 89 = .ok (.bipush 50, 2) := by decide +kernel
theorem dX7_init_91 : decode cX7_init 91 = .ok (.putfield 63, 3) := by decide +kernel
theorem dX7_init_94 : decode cX7_init 94 = .ok (.aload_n 0, 1) := by decide +kernel
theorem dX7_init_95 : decode cX7_init 95 = .ok (.new 66, 3) := by decide +kernel
theorem dX7_init_98 : decode cX7_init 98 = .ok (.dup, 1) := by decide +kernel
theorem dX7_init_99 : decode cX7_init 99 = .ok (.iload_n 1, 1) := by decide +kernel
theorem dX7_init_100 : decode cX7_init 100 = .ok (.invokespecial 68, 3) := by decide +kernel
theorem dX7_init_103 : decode cX7_init 103 = .ok (.putfield 71, 3) := by decide +kernel
theorem dX7_init_106 : decode cX7_init 106 = .ok (.return_, 1) := by decide +kernel
set_option maxRecDepth 20000 in
theorem ggX7_passMinute_X7_handleCommands_k0 : GoodIn wsX7_passMinute [.code yX7_handleCommands cX7_handleCommands 3 none] := goodIn_r _ [11] (by decide +kernel) (by decide +kernel)
set_option maxRecDepth 20000 in
theorem ggX7_passMinute_X7_handleCommands_k1 : GoodIn wsX7_passMinute wsX7_handleCommands_r1 := goodIn_r _ [12, 13, 5, 2, 14, 15, 16, 17, 18, 19, 20, 21, 22, 23, 24, 25, 26, 27, 28, 29, 30, 31, 32, 33] (by decide +kernel) (by decide +kernel)
set_option maxRecDepth 20000 in
theorem ggX7_passMinute_X7_handleCommands_k2 : GoodIn wsX7_passMinute wsX7_handleCommands_r2 := goodIn_r _ [34, 35, 36, 10, 37, 38, 39, 40, 41, 42, 43, 44, 45, 46, 47, 48, 49, 50, 51, 52, 53, 54, 55, 56] (by decide +kernel) (by decide +kernel)
set_option maxRecDepth 20000 in
theorem ggX7_passMinute_X7_handleCommands_k3 : GoodIn wsX7_passMinute wsX7_handleCommands_r3 := goodIn_r _ [57, 58, 59, 60, 61, 62, 63] (by decide +kernel) (by decide +kernel)
set_option maxRecDepth 20000 in
theorem ggX7_passMinute_X7_handleCommands_k4 : GoodIn wsX7_passMinute wsX70 := goodIn_r _ [183, 184, 185, 186, 187, 188, 189, 190, 191, 192, 193, 194, 195, 196] (by decide +kernel) (by decide +kernel)
set_option maxRecDepth 20000 in
theorem ggX7_passMinute_X7_handleCommands_k5 : GoodIn wsX7_passMinute wsX00 := goodIn_r _ [197, 198, 199, 200, 201] (by decide +kernel) (by decide +kernel)
set_option maxRecDepth 20000 in
theorem ggX7_passMinute_X7_handleCommands_k6 : GoodIn wsX7_passMinute wsX30 := goodIn_r _ [202, 203] (by decide +kernel) (by decide +kernel)
set_option maxRecDepth 20000 in
theorem ggX7_passMinute_X7_handleCommands_k7 : GoodIn wsX7_passMinute wsX20 := goodIn_r _ [204, 205, 206, 207, 208] (by decide +kernel) (by decide +kernel)
set_option maxRecDepth 20000 in
theorem ggX7_passMinute_X7_handleCommands_k8 : GoodIn wsX7_passMinute wsX40 := goodIn_r _ [209, 210, 211, 212] (by decide +kernel) (by decide +kernel)
set_option maxRecDepth 20000 in
theorem ggX7_passMinute_X7_handleCommands : GoodIn wsX7_passMinute wsX7_handleCommands := goodIn_ca (goodIn_cons1 ggX7_passMinute_X7_handleCommands_k0 (goodIn_app (goodIn_app (goodIn_app (goodIn_app (goodIn_app (goodIn_app ggX7_passMinute_X7_handleCommands_k1 (goodIn_app ggX7_passMinute_X7_handleCommands_k2 ggX7_passMinute_X7_handleCommands_k3)) ggX7_passMinute_X7_handleCommands_k4) ggX7_passMinute_X7_handleCommands_k5) ggX7_passMinute_X7_handleCommands_k6) ggX7_passMinute_X7_handleCommands_k7) ggX7_passMinute_X7_handleCommands_k8)) (goodIn_sub (fun _ h => List.mem_cons_of_mem _ (List.mem_append_right _ h)) (by decide +kernel))
set_option maxRecDepth 20000 in
theorem gX7_passMinute_X7_handleCommands : GoodIn wsX7_passMinute (wsV RX7 104 RX7 yX7_handleCommands wsX7_handleCommands) := goodIn_app (goodIn_of _ (by decide +kernel)) ggX7_passMinute_X7_handleCommands
set_option maxRecDepth 20000 in
theorem ggX7_passMinute_X6_advance : GoodIn wsX7_passMinute wsX6_advance := goodIn_ca (goodIn_r _ [68, 69, 70, 71, 72, 73, 74, 75, 67, 76, 77, 78, 24, 25, 26, 27, 28, 29, 213, 214, 215, 216, 217, 218, 202, 203] (by decide +kernel) (by decide +kernel)) (goodIn_sub (fun _ h => List.mem_cons_of_mem _ (List.mem_append_right _ h)) (by decide +kernel))
set_option maxRecDepth 20000 in
theorem gX7_passMinute_X6_advance : GoodIn wsX7_passMinute (wsV RX7 107 RX6 yX6_advance wsX6_advance) := goodIn_app (goodIn_of _ (by decide +kernel)) ggX7_passMinute_X6_advance
set_option maxRecDepth 20000 in
theorem ggX7_passMinute_X7_bringWater : GoodIn wsX7_passMinute wsX7_bringWater := goodIn_r _ [82, 83, 84, 183, 184, 185, 186, 187, 188, 189, 190, 191, 192, 193, 194, 195, 196] (by decide +kernel) (by decide +kernel)
set_option maxRecDepth 20000 in
theorem gX7_passMinute_X7_bringWater : GoodIn wsX7_passMinute (wsV RX7 111 RX7 yX7_bringWater wsX7_bringWater) := goodIn_app (goodIn_of _ (by decide +kernel)) ggX7_passMinute_X7_bringWater
set_option maxRecDepth 20000 in
theorem ggX7_passMinute_X7_runDevices_k0 : GoodIn wsX7_passMinute [.code yX7_runDevices cX7_runDevices 5 none] := goodIn_r _ [88] (by decide +kernel) (by decide +kernel)
set_option maxRecDepth 20000 in
theorem ggX7_passMinute_X7_runDevices_k1 : GoodIn wsX7_passMinute wsX7_runDevices_r1 := goodIn_r _ [89, 90, 42, 91, 92, 93, 94, 95, 3, 96, 83, 97, 98, 99, 100, 101, 102, 103, 10, 104, 5, 105, 106, 47] (by decide +kernel) (by decide +kernel)
set_option maxRecDepth 20000 in
theorem ggX7_passMinute_X7_runDevices_k2 : GoodIn wsX7_passMinute wsX7_runDevices_r2 := goodIn_r _ [107, 108, 109, 110, 111, 112, 113, 114, 115, 116, 117, 118, 119, 120, 121, 122, 123, 124] (by decide +kernel) (by decide +kernel)
set_option maxRecDepth 20000 in
theorem ggX7_passMinute_X7_runDevices_k3 : GoodIn wsX7_passMinute wsX70 := goodIn_r _ [183, 184, 185, 186, 187, 188, 189, 190, 191, 192, 193, 194, 195, 196] (by decide +kernel) (by decide +kernel)
set_option maxRecDepth 20000 in
theorem ggX7_passMinute_X7_runDevices_k4 : GoodIn wsX7_passMinute wsX20 := goodIn_r _ [204, 205, 206, 207, 208] (by decide +kernel) (by decide +kernel)
set_option maxRecDepth 20000 in
theorem ggX7_passMinute_X7_runDevices_k5 : GoodIn wsX7_passMinute wsX50 := goodIn_r _ [219, 220, 221, 222, 223] (by decide +kernel) (by decide +kernel)
set_option maxRecDepth 20000 in
theorem ggX7_passMinute_X7_runDevices : GoodIn wsX7_passMinute wsX7_runDevices := goodIn_ca (goodIn_cons1 ggX7_passMinute_X7_runDevices_k0 (goodIn_app (goodIn_app (goodIn_app (goodIn_app ggX7_passMinute_X7_runDevices_k1 ggX7_passMinute_X7_runDevices_k2) ggX7_passMinute_X7_runDevices_k3) ggX7_passMinute_X7_runDevices_k4) ggX7_passMinute_X7_runDevices_k5)) (goodIn_sub (fun _ h => List.mem_cons_of_mem _ (List.mem_append_right _ h)) (by decide +kernel))
set_option maxRecDepth 20000 in
theorem gX7_passMinute_X7_runDevices : GoodIn wsX7_passMinute (wsV RX7 114 RX7 yX7_runDevices wsX7_runDevices) := goodIn_app (goodIn_of _ (by decide +kernel)) ggX7_passMinute_X7_runDevices
set_option maxRecDepth 20000 in
theorem ggX7_passMinute_X5_leakOut : GoodIn wsX7_passMinute wsX5_leakOut := goodIn_ca (goodIn_r _ [128, 119, 129, 124, 114, 98, 99, 100, 130, 219, 220, 221, 222, 223] (by decide +kernel) (by decide +kernel)) (goodIn_sub (fun _ h => List.mem_cons_of_mem _ (List.mem_append_right _ h)) (by decide +kernel))
set_option maxRecDepth 20000 in
theorem gX7_passMinute_X5_leakOut : GoodIn wsX7_passMinute (wsV RX7 117 RX5 yX5_leakOut wsX5_leakOut) := goodIn_app (goodIn_of _ (by decide +kernel)) ggX7_passMinute_X5_leakOut
set_option maxRecDepth 20000 in
theorem ggX7_passMinute_X7_levelRooms : GoodIn wsX7_passMinute wsX7_levelRooms := goodIn_ca (goodIn_r _ [134, 43, 135, 136, 3, 137, 138, 139, 140, 141, 111, 142, 124, 113, 115, 116, 117, 118, 119, 183, 184, 185, 186, 187, 188, 189, 190, 191, 192, 193, 194, 195, 196, 209, 210, 211, 212, 219, 220, 221, 222, 223] (by decide +kernel) (by decide +kernel)) (goodIn_sub (fun _ h => List.mem_cons_of_mem _ (List.mem_append_right _ h)) (by decide +kernel))
set_option maxRecDepth 20000 in
theorem gX7_passMinute_X7_levelRooms : GoodIn wsX7_passMinute (wsV RX7 120 RX7 yX7_levelRooms wsX7_levelRooms) := goodIn_app (goodIn_of _ (by decide +kernel)) ggX7_passMinute_X7_levelRooms
set_option maxRecDepth 20000 in
theorem ggX7_passMinute_X1_breathe : GoodIn wsX7_passMinute wsX1_breathe := goodIn_ca (goodIn_r _ [147, 148, 149, 150, 151, 152, 153, 154, 155, 146, 156, 157, 158, 159, 111, 160, 124, 114, 98, 99, 100, 113, 115, 116, 117, 118, 119, 161, 24, 25, 26, 27, 28, 29, 224, 225, 226, 227, 228, 229, 219, 220, 221, 222, 223, 202, 203] (by decide +kernel) (by decide +kernel)) (goodIn_sub (fun _ h => List.mem_cons_of_mem _ (List.mem_append_right _ h)) (by decide +kernel))
set_option maxRecDepth 20000 in
theorem gX7_passMinute_X1_breathe : GoodIn wsX7_passMinute (wsV RX7 123 RX1 yX1_breathe wsX1_breathe) := goodIn_app (goodIn_of _ (by decide +kernel)) ggX7_passMinute_X1_breathe
set_option maxRecDepth 20000 in
theorem ggX7_passMinute_X1_isInDanger : GoodIn wsX7_passMinute wsX1_isInDanger := goodIn_ca (goodIn_r _ [165, 148, 149, 151, 166, 167, 168, 111, 169, 124, 113, 115, 116, 117, 118, 119, 224, 225, 226, 227, 228, 229, 219, 220, 221, 222, 223] (by decide +kernel) (by decide +kernel)) (goodIn_sub (fun _ h => List.mem_cons_of_mem _ (List.mem_append_right _ h)) (by decide +kernel))
set_option maxRecDepth 20000 in
theorem gX7_passMinute_X1_isInDanger : GoodIn wsX7_passMinute (wsV RX7 127 RX1 yX1_isInDanger wsX1_isInDanger) := goodIn_app (goodIn_of _ (by decide +kernel)) ggX7_passMinute_X1_isInDanger
theorem dX7_passMinute_0 : decode cX7_passMinute 0 = .ok (.aload_n 0, 1) := by decide +kernel
theorem dX7_passMinute_1 : decode cX7_passMinute 1 = .ok (.invokevirtual 104, 3) := by decide +kernel
theorem dX7_passMinute_4 : decode cX7_passMinute 4 = .ok (.aload_n 0, 1) := by decide +kernel
theorem dX7_passMinute_5 : decode cX7_passMinute 5 = .ok (.aload_n 0, 1) := by decide +kernel
theorem dX7_passMinute_6 : decode cX7_passMinute 6 = .ok (.getfield 49, 3) := by decide +kernel
theorem dX7_passMinute_9 : decode cX7_passMinute 9 = .ok (.aload_n 0, 1) := by decide +kernel
theorem dX7_passMinute_10 : decode cX7_passMinute 10 = .ok (.getfield 71, 3) := by decide +kernel
theorem dX7_passMinute_13 : decode cX7_passMinute 13 = .ok (.invokevirtual 107, 3) := by decide +kernel
theorem dX7_passMinute_16 : decode cX7_passMinute 16 = .ok (.invokevirtual 111, 3) := by decide +kernel
theorem dX7_passMinute_19 : decode cX7_passMinute 19 = .ok (.aload_n 0, 1) := by decide +kernel
theorem dX7_passMinute_20 : decode cX7_passMinute 20 = .ok (.invokevirtual 114, 3) := by decide +kernel
theorem dX7_passMinute_23 : decode cX7_passMinute 23 = .ok (.aload_n 0, 1) := by decide +kernel
theorem dX7_passMinute_24 : decode cX7_passMinute 24 = .ok (.getfield 12, 3) := by decide +kernel
theorem dX7_passMinute_27 : decode cX7_passMinute 27 = .ok (.invokevirtual 117, 3) := by decide +kernel
theorem dX7_passMinute_30 : decode cX7_passMinute 30 = .ok (.aload_n 0, 1) := by decide +kernel
theorem dX7_passMinute_31 : decode cX7_passMinute 31 = .ok (.invokevirtual 120, 3) := by decide +kernel
theorem dX7_passMinute_34 : decode cX7_passMinute 34 = .ok (.aload_n 0, 1) := by decide +kernel
theorem dX7_passMinute_35 : decode cX7_passMinute 35 = .ok (.getfield 35, 3) := by decide +kernel
theorem dX7_passMinute_38 : decode cX7_passMinute 38 = .ok (.aload_n 0, 1) := by decide +kernel
theorem dX7_passMinute_39 : decode cX7_passMinute 39 = .ok (.getfield 12, 3) := by decide +kernel
theorem dX7_passMinute_42 : decode cX7_passMinute 42 = .ok (.aload_n 0, 1) := by decide +kernel
theorem dX7_passMinute_43 : decode cX7_passMinute 43 = .ok (.getfield 71, 3) := by decide +kernel
theorem dX7_passMinute_46 : decode cX7_passMinute 46 = .ok (.aload_n 0, 1) := by decide +kernel
theorem dX7_passMinute_47 : decode cX7_passMinute 47 = .ok (.getfield 94, 3) := by decide +kernel
theorem dX7_passMinute_50 : decode cX7_passMinute 50 = .ok (.invokevirtual 123, 3) := by decide +kernel
theorem dX7_passMinute_53 : decode cX7_passMinute 53 = .ok (.aload_n 0, 1) := by decide +kernel
theorem dX7_passMinute_54 : decode cX7_passMinute 54 = .ok (.getfield 97, 3) := by decide +kernel
theorem dX7_passMinute_57 : decode cX7_passMinute 57 = .ok (.ifCond .ne 21, 3) := by decide +kernel
theorem dX7_passMinute_60 : decode cX7_passMinute 60 = .ok (.aload_n 0, 1) := by decide +kernel
theorem dX7_passMinute_61 : decode cX7_passMinute 61 = .ok (.getfield 35, 3) := by decide +kernel
theorem dX7_passMinute_64 : decode cX7_passMinute 64 = .ok (.aload_n 0, 1) := by decide +kernel
theorem dX7_passMinute_65 : decode cX7_passMinute 65 = .ok (.getfield 12, 3) := by decide +kernel
theorem dX7_passMinute_68 : decode cX7_passMinute 68 = .ok (.invokevirtual 127, 3) := by decide +kernel
theorem dX7_passMinute_71 : decode cX7_passMinute 71 = .ok (.ifCond .eq 7, 3) := by decide +kernel
theorem dX7_passMinute_78 : decode cX7_passMinute 78 = .ok (.aload_n 0, 1) := by decide +kernel
theorem dX7_passMinute_79 : decode cX7_passMinute 79 = .ok (.dup, 1) := by decide +kernel
theorem dX7_passMinute_80 : decode cX7_passMinute 80 = .ok (.getfield 94, 3) := by decide +kernel
theorem dX7_passMinute_83 : decode cX7_passMinute 83 = .ok (.iconst 1, 1) := by decide +kernel
theorem dX7_passMinute_84 : decode cX7_passMinute 84 = .ok (.iadd, 1) := by decide +kernel
theorem dX7_passMinute_85 : decode cX7_passMinute 85 = .ok (.putfield 94, 3) := by decide +kernel
theorem dX7_passMinute_88 : decode cX7_passMinute 88 = .ok (.return_, 1) := by decide +kernel
set_option maxRecDepth 20000 in
theorem ggX7_keepsMass_X5_oxygenSum : GoodIn wsX7_keepsMass wsX5_oxygenSum := goodIn_ca (goodIn_r _ [10, 11, 12, 32, 33, 34, 35, 36] (by decide +kernel) (by decide +kernel)) (goodIn_sub (fun _ h => List.mem_cons_of_mem _ (List.mem_append_right _ h)) (by decide +kernel))
set_option maxRecDepth 20000 in
theorem gX7_keepsMass_X5_oxygenSum : GoodIn wsX7_keepsMass (wsV RX7 134 RX5 yX5_oxygenSum wsX5_oxygenSum) := goodIn_app (goodIn_of _ (by decide +kernel)) ggX7_keepsMass_X5_oxygenSum
set_option maxRecDepth 20000 in
theorem ggX7_keepsMass_X5_carbonSum : GoodIn wsX7_keepsMass wsX5_carbonSum := goodIn_ca (goodIn_r _ [16, 11, 17, 32, 33, 34, 35, 36] (by decide +kernel) (by decide +kernel)) (goodIn_sub (fun _ h => List.mem_cons_of_mem _ (List.mem_append_right _ h)) (by decide +kernel))
set_option maxRecDepth 20000 in
theorem gX7_keepsMass_X5_carbonSum : GoodIn wsX7_keepsMass (wsV RX7 138 RX5 yX5_carbonSum wsX5_carbonSum) := goodIn_app (goodIn_of _ (by decide +kernel)) ggX7_keepsMass_X5_carbonSum
theorem dX7_keepsMass_0 : decode cX7_keepsMass 0 = .ok (.aload_n 0, 1) := by decide +kernel
theorem dX7_keepsMass_1 : decode cX7_keepsMass 1 = .ok (.getfield 63, 3) := by decide +kernel
theorem dX7_keepsMass_4 : decode cX7_keepsMass 4 = .ok (.aload_n 0, 1) := by decide +kernel
theorem dX7_keepsMass_5 : decode cX7_keepsMass 5 = .ok (.getfield 12, 3) := by decide +kernel
theorem dX7_keepsMass_8 : decode cX7_keepsMass 8 = .ok (.invokevirtual 134, 3) := by decide +kernel
theorem dX7_keepsMass_11 : decode cX7_keepsMass 11 = .ok (.aload_n 0, 1) := by decide +kernel
theorem dX7_keepsMass_12 : decode cX7_keepsMass 12 = .ok (.getfield 12, 3) := by decide +kernel
theorem dX7_keepsMass_15 : decode cX7_keepsMass 15 = .ok (.invokevirtual 138, 3) := by decide +kernel
theorem dX7_keepsMass_18 : decode cX7_keepsMass 18 = .ok (.iadd, 1) := by decide +kernel
theorem dX7_keepsMass_19 : decode cX7_keepsMass 19 = .ok (.aload_n 0, 1) := by decide +kernel
theorem dX7_keepsMass_20 : decode cX7_keepsMass 20 = .ok (.getfield 12, 3) := by decide +kernel
theorem dX7_keepsMass_23 : decode cX7_keepsMass 23 = .ok (.getfield 141, 3) := by decide +kernel
theorem dX7_keepsMass_26 : decode cX7_keepsMass 26 = .ok (.iadd, 1) := by decide +kernel
theorem dX7_keepsMass_27 : decode cX7_keepsMass 27 = .ok (.aload_n 0, 1) := by decide +kernel
theorem dX7_keepsMass_28 : decode cX7_keepsMass 28 = .ok (.getfield 60, 3) := by decide +kernel
theorem dX7_keepsMass_31 : decode cX7_keepsMass 31 = .ok (.iadd, 1) := by decide +kernel
theorem dX7_keepsMass_32 : decode cX7_keepsMass 32 = .ok (.aload_n 0, 1) := by decide +kernel
theorem dX7_keepsMass_33 : decode cX7_keepsMass 33 = .ok (.getfield 101, 3) := by decide +kernel
theorem dX7_keepsMass_36 : decode cX7_keepsMass 36 = .ok (.iadd, 1) := by decide +kernel
theorem dX7_keepsMass_37 : decode cX7_keepsMass 37 = .ok (.if_icmp .ne 7, 3) := by decide +kernel
theorem dX7_keepsMass_40 : decode cX7_keepsMass 40 = .ok (.iconst 1, 1) := by decide +kernel
theorem dX7_keepsMass_41 : decode cX7_keepsMass 41 = .ok (.goto 4, 3) := by decide +kernel
theorem dX7_keepsMass_45 : decode cX7_keepsMass 45 = .ok (.ireturn, 1) := by decide +kernel
theorem dX7_handleCommands_0 : decode cX7_handleCommands 0 = .ok (.iconst 0, 1) := by decide +kernel
theorem dX7_handleCommands_1 : decode cX7_handleCommands 1 = .ok (.istore_n 1, 1) := by decide +kernel
theorem dX7_handleCommands_2 : decode cX7_handleCommands 2 = .ok (.iconst 0, 1) := by decide +kernel
theorem dX7_handleCommands_3 : decode cX7_handleCommands 3 = .ok (.istore_n 2, 1) := by decide +kernel
theorem dX7_handleCommands_4 : decode cX7_handleCommands 4 = .ok (.iload_n 2, 1) := by decide +kernel
theorem dX7_handleCommands_5 : decode cX7_handleCommands 5 = .ok (.aload_n 0, 1) := by decide +kernel
theorem dX7_handleCommands_6 : decode cX7_handleCommands 6 = .ok (.getfield 42, 3) := by decide +kernel
theorem dX7_handleCommands_9 : decode cX7_handleCommands 9 = .ok (.getfield 144, 3) := by decide +kernel
theorem dX7_handleCommands_12 : decode cX7_handleCommands 12 = .ok (.if_icmp .ge 104, 3) := by decide +kernel
theorem dX7_handleCommands_116 : decode cX7_handleCommands 116 = .ok (.aload_n 0, 1) := by decide +kernel
theorem dX7_handleCommands_117 : decode cX7_handleCommands 117 = .ok (.getfield 42, 3) := by decide +kernel
theorem dX7_handleCommands_120 : decode cX7_handleCommands 120 = .ok (.iload_n 1, 1) := by decide +kernel
theorem dX7_handleCommands_121 : decode cX7_handleCommands 121 = .ok (.putfield 144, 3) := by decide +kernel
theorem dX7_handleCommands_124 : decode cX7_handleCommands 124 = .ok (.return_, 1) := by decide +kernel
theorem dX7_bringWater_0 : decode cX7_bringWater 0 = .ok (.aload_n 0, 1) := by decide +kernel
theorem dX7_bringWater_1 : decode cX7_bringWater 1 = .ok (.dup, 1) := by decide +kernel
theorem dX7_bringWater_2 : decode cX7_bringWater 2 = .ok (.getfield 60, 3) := by decide +kernel
theorem dX7_bringWater_5 : decode cX7_bringWater 5 = .ok (.iload_n 1, 1) := by decide +kernel
theorem dX7_bringWater_6 : decode cX7_bringWater 6 = .ok (.iadd, 1) := by decide +kernel
theorem dX7_bringWater_7 : decode cX7_bringWater 7 = .ok (.putfield 60, 3) := by decide +kernel
theorem dX7_bringWater_10 : decode cX7_bringWater 10 = .ok (.aload_n 0, 1) := by decide +kernel
theorem dX7_bringWater_11 : decode cX7_bringWater 11 = .ok (.dup, 1) := by decide +kernel
theorem dX7_bringWater_12 : decode cX7_bringWater 12 = .ok (.getfield 63, 3) := by decide +kernel
theorem dX7_bringWater_15 : decode cX7_bringWater 15 = .ok (.iload_n 1, 1) := by decide +kernel
theorem dX7_bringWater_16 : decode cX7_bringWater 16 = .ok (.iadd, 1) := by decide +kernel
theorem dX7_bringWater_17 : decode cX7_bringWater 17 = .ok (.putfield 63, 3) := by decide +kernel
theorem dX7_bringWater_20 : decode cX7_bringWater 20 = .ok (.return_, 1) := by decide +kernel
set_option maxRecDepth 20000 in
theorem ggX7_runDevices_X7_isInSun : GoodIn wsX7_runDevices wsX7_isInSun := goodIn_r _ [20, 21, 43, 44, 45, 46, 47, 48, 49, 50, 51, 52, 53, 54, 55, 56] (by decide +kernel) (by decide +kernel)
set_option maxRecDepth 20000 in
theorem gX7_runDevices_X7_isInSun : GoodIn wsX7_runDevices (wsV RX7 183 RX7 yX7_isInSun wsX7_isInSun) := goodIn_app (goodIn_of _ (by decide +kernel)) ggX7_runDevices_X7_isInSun
theorem dX7_runDevices_0 : decode cX7_runDevices 0 = .ok (.aload_n 0, 1) := by decide +kernel
theorem dX7_runDevices_1 : decode cX7_runDevices 1 = .ok (.getfield 57, 3) := by decide +kernel
theorem dX7_runDevices_4 : decode cX7_runDevices 4 = .ok (.aload_n 0, 1) := by decide +kernel
theorem dX7_runDevices_5 : decode cX7_runDevices 5 = .ok (.invokevirtual 183, 3) := by decide +kernel
theorem dX7_runDevices_8 : decode cX7_runDevices 8 = .ok (.ifCond .eq 10, 3) := by decide +kernel
theorem dX7_runDevices_11 : decode cX7_runDevices 11 = .ok (.aload_n 0, 1) := by decide +kernel
theorem dX7_runDevices_12 : decode cX7_runDevices 12 = .ok (.getfield 53, 3) := by decide +kernel
theorem dX7_runDevices_15 : decode cX7_runDevices 15 = .ok (.goto 4, 3) := by decide +kernel
theorem dX7_runDevices_18 : decode cX7_runDevices 18 = .ok (.iconst 0, 1) := by decide +kernel
theorem dX7_runDevices_19 : decode cX7_runDevices 19 = .ok (.iadd, 1) := by decide +kernel
theorem dX7_runDevices_20 : decode cX7_runDevices 20 = .ok (.istore_n 1, 1) := by decide +kernel
theorem dX7_runDevices_21 : decode cX7_runDevices 21 = .ok (.iconst 0, 1) := by decide +kernel
theorem dX7_runDevices_22 : decode cX7_runDevices 22 = .ok (.istore_n 2, 1) := by decide +kernel
theorem dX7_runDevices_23 : decode cX7_runDevices 23 = .ok (.iload_n 2, 1) := by decide +kernel
theorem dX7_runDevices_24 : decode cX7_runDevices 24 = .ok (.aload_n 0, 1) := by decide +kernel
theorem dX7_runDevices_25 : decode cX7_runDevices 25 = .ok (.getfield 28, 3) := by decide +kernel
theorem dX7_runDevices_28 : decode cX7_runDevices 28 = .ok (.getfield 186, 3) := by decide +kernel
theorem dX7_runDevices_31 : decode cX7_runDevices 31 = .ok (.if_icmp .ge 133, 3) := by decide +kernel
theorem dX7_runDevices_164 : decode cX7_runDevices 164 = .ok (.aload_n 0, 1) := by decide +kernel
theorem dX7_runDevices_165 : decode cX7_runDevices 165 = .ok (.iload_n 1, 1) := by decide +kernel
theorem dX7_runDevices_166 : decode cX7_runDevices 166 = .ok (.sipush 200, 3) := by decide +kernel
theorem dX7_runDevices_169 : decode cX7_runDevices 169 = .ok (.invokestatic 206, 3) := by decide +kernel
theorem dX7_runDevices_172 : decode cX7_runDevices 172 = .ok (.putfield 57, 3) := by decide +kernel
theorem dX7_runDevices_175 : decode cX7_runDevices 175 = .ok (.return_, 1) := by decide +kernel
theorem dX7_levelRooms_0 : decode cX7_levelRooms 0 = .ok (.iconst 0, 1) := by decide +kernel
theorem dX7_levelRooms_1 : decode cX7_levelRooms 1 = .ok (.istore_n 1, 1) := by decide +kernel
theorem dX7_levelRooms_2 : decode cX7_levelRooms 2 = .ok (.iload_n 1, 1) := by decide +kernel
theorem dX7_levelRooms_3 : decode cX7_levelRooms 3 = .ok (.aload_n 0, 1) := by decide +kernel
theorem dX7_levelRooms_4 : decode cX7_levelRooms 4 = .ok (.getfield 21, 3) := by decide +kernel
theorem dX7_levelRooms_7 : decode cX7_levelRooms 7 = .ok (.getfield 214, 3) := by decide +kernel
theorem dX7_levelRooms_10 : decode cX7_levelRooms 10 = .ok (.if_icmp .ge 46, 3) := by decide +kernel
theorem dX7_levelRooms_56 : decode cX7_levelRooms 56 = .ok (.return_, 1) := by decide +kernel
theorem dX7_isInSun_0 : decode cX7_isInSun 0 = .ok (.aload_n 0, 1) := by decide +kernel
theorem dX7_isInSun_1 : decode cX7_isInSun 1 = .ok (.getfield 94, 3) := by decide +kernel
theorem dX7_isInSun_4 : decode cX7_isInSun 4 = .ok (.bipush 90, 2) := by decide +kernel
theorem dX7_isInSun_6 : decode cX7_isInSun 6 = .ok (.irem, 1) := by decide +kernel
theorem dX7_isInSun_7 : decode cX7_isInSun 7 = .ok (.bipush 60, 2) := by decide +kernel
theorem dX7_isInSun_9 : decode cX7_isInSun 9 = .ok (.if_icmp .ge 7, 3) := by decide +kernel
theorem dX7_isInSun_12 : decode cX7_isInSun 12 = .ok (.iconst 1, 1) := by decide +kernel
theorem dX7_isInSun_13 : decode cX7_isInSun 13 = .ok (.goto 4, 3) := by decide +kernel
theorem dX7_isInSun_16 : decode cX7_isInSun 16 = .ok (.iconst 0, 1) := by decide +kernel
theorem dX7_isInSun_17 : decode cX7_isInSun 17 = .ok (.ireturn, 1) := by decide +kernel
set_option maxRecDepth 20000 in
theorem ggX8_init_X7_init_k0 : GoodIn wsX8_init [.code yX7_init cX7_init 2 none] := goodIn_r _ [11] (by decide +kernel) (by decide +kernel)
set_option maxRecDepth 20000 in
theorem ggX8_init_X7_init_k1 : GoodIn wsX8_init wsX7_init_r1 := goodIn_r _ [12, 2, 3, 13, 14, 15, 16, 17, 18, 19, 20, 21, 22, 23, 24, 25, 26, 27, 28, 29, 30, 31, 32, 33] (by decide +kernel) (by decide +kernel)
set_option maxRecDepth 20000 in
theorem ggX8_init_X7_init_k2 : GoodIn wsX8_init wsX7_init_r2 := goodIn_r _ [34, 35, 36, 37, 38, 39, 40, 41, 42, 43, 44, 45, 46, 47, 48, 49, 50, 51, 52, 53, 54, 55, 56, 57] (by decide +kernel) (by decide +kernel)
set_option maxRecDepth 20000 in
theorem ggX8_init_X7_init_k3 : GoodIn wsX8_init wsX7_init_r3 := goodIn_r _ [58, 59, 60, 61, 62, 63, 64, 65, 66, 67, 68, 69, 70, 71, 72, 73, 74, 75, 76, 77, 78, 79, 80, 81] (by decide +kernel) (by decide +kernel)
set_option maxRecDepth 20000 in
theorem ggX8_init_X7_init_k4 : GoodIn wsX8_init wsX7_init_r4 := goodIn_r _ [82, 83, 84, 85, 86, 87, 88, 89, 90, 91, 92, 93] (by decide +kernel) (by decide +kernel)
set_option maxRecDepth 20000 in
theorem ggX8_init_X7_init_k5 : GoodIn wsX8_init wsX50 := goodIn_r _ [110, 111, 112, 113, 114] (by decide +kernel) (by decide +kernel)
set_option maxRecDepth 20000 in
theorem ggX8_init_X7_init_k6 : GoodIn wsX8_init wsX70 := goodIn_r _ [94, 95, 96, 97, 98, 99, 100, 101, 102, 103, 104, 105, 106, 107] (by decide +kernel) (by decide +kernel)
set_option maxRecDepth 20000 in
theorem ggX8_init_X7_init_k7 : GoodIn wsX8_init wsX40 := goodIn_r _ [115, 116, 117, 118] (by decide +kernel) (by decide +kernel)
set_option maxRecDepth 20000 in
theorem ggX8_init_X7_init_k8 : GoodIn wsX8_init wsX20 := goodIn_r _ [119, 120, 121, 122, 123] (by decide +kernel) (by decide +kernel)
set_option maxRecDepth 20000 in
theorem ggX8_init_X7_init_k9 : GoodIn wsX8_init wsX10 := goodIn_r _ [124, 125, 126, 127, 128, 129] (by decide +kernel) (by decide +kernel)
set_option maxRecDepth 20000 in
theorem ggX8_init_X7_init_k10 : GoodIn wsX8_init wsX00 := goodIn_r _ [130, 131, 132, 133, 134] (by decide +kernel) (by decide +kernel)
set_option maxRecDepth 20000 in
theorem ggX8_init_X7_init_k11 : GoodIn wsX8_init wsX60 := goodIn_r _ [135, 136, 137, 138, 139, 140] (by decide +kernel) (by decide +kernel)
set_option maxRecDepth 20000 in
theorem ggX8_init_X7_init_k12 : GoodIn wsX8_init wsX30 := goodIn_r _ [141, 142] (by decide +kernel) (by decide +kernel)
set_option maxRecDepth 20000 in
theorem ggX8_init_X7_init : GoodIn wsX8_init wsX7_init := goodIn_cons1 ggX8_init_X7_init_k0 (goodIn_app (goodIn_app (goodIn_app (goodIn_app (goodIn_app (goodIn_app (goodIn_app (goodIn_app (goodIn_app ggX8_init_X7_init_k1 (goodIn_app ggX8_init_X7_init_k2 (goodIn_app ggX8_init_X7_init_k3 ggX8_init_X7_init_k4))) ggX8_init_X7_init_k5) ggX8_init_X7_init_k6) ggX8_init_X7_init_k7) ggX8_init_X7_init_k8) ggX8_init_X7_init_k9) ggX8_init_X7_init_k10) ggX8_init_X7_init_k11) ggX8_init_X7_init_k12)
set_option maxRecDepth 20000 in
theorem gX8_init_X7_init : GoodIn wsX8_init (wsX7_init) := ggX8_init_X7_init
