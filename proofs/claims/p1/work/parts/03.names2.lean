theorem dX0_init_0 : decode cX0_init 0 = .ok (.aload_n 0, 1) := by decide +kernel
theorem dX0_init_1 : decode cX0_init 1 = .ok (.invokespecial 3, 3) := by decide +kernel
theorem dX0_init_4 : decode cX0_init 4 = .ok (.aload_n 0, 1) := by decide +kernel
theorem dX0_init_5 : decode cX0_init 5 = .ok (.bipush 12, 2) := by decide +kernel
theorem dX0_init_7 : decode cX0_init 7 = .ok (.newarray .char, 2) := by decide +kernel
theorem dX0_init_9 : decode cX0_init 9 = .ok (.putfield 9, 3) := by decide +kernel
theorem dX0_init_12 : decode cX0_init 12 = .ok (.aload_n 0, 1) := by decide +kernel
theorem dX0_init_13 : decode cX0_init 13 = .ok (.bipush 12, 2) := by decide +kernel
theorem dX0_init_15 : decode cX0_init 15 = .ok (.newarray .int, 2) := by decide +kernel
theorem dX0_init_17 : decode cX0_init 17 = .ok (.putfield 15, 3) := by decide +kernel
theorem dX0_init_20 : decode cX0_init 20 = .ok (.aload_n 0, 1) := by decide +kernel
theorem dX0_init_21 : decode cX0_init 21 = .ok (.bipush 12, 2) := by decide +kernel
theorem dX0_init_23 : decode cX0_init 23 = .ok (.newarray .int, 2) := by decide +kernel
theorem dX0_init_25 : decode cX0_init 25 = .ok (.putfield 19, 3) := by decide +kernel
theorem dX0_init_28 : decode cX0_init 28 = .ok (.aload_n 0, 1) := by decide +kernel
theorem dX0_init_29 : decode cX0_init 29 = .ok (.bipush 12, 2) := by decide +kernel
theorem dX0_init_31 : decode cX0_init 31 = .ok (.newarray .int, 2) := by decide +kernel
theorem dX0_init_33 : decode cX0_init 33 = .ok (.putfield 22, 3) := by decide +kernel
theorem dX0_init_36 : decode cX0_init 36 = .ok (.return_, 1) := by decide +kernel
theorem dX0_isFull_0 : decode cX0_isFull 0 = .ok (.aload_n 0, 1) := by decide +kernel
theorem dX0_isFull_1 : decode cX0_isFull 1 = .ok (.getfield 25, 3) := by decide +kernel
theorem dX0_isFull_4 : decode cX0_isFull 4 = .ok (.bipush 12, 2) := by decide +kernel
theorem dX0_isFull_6 : decode cX0_isFull 6 = .ok (.if_icmp .lt 7, 3) := by decide +kernel
theorem dX0_isFull_9 : decode cX0_isFull 9 = .ok (.iconst 1, 1) := by decide +kernel
theorem dX0_isFull_10 : decode cX0_isFull 10 = .ok (.goto 4, 3) := by decide +kernel
theorem dX0_isFull_13 : decode cX0_isFull 13 = .ok (.iconst 0, 1) := by decide +kernel
theorem dX0_isFull_14 : decode cX0_isFull 14 = .ok (.ireturn, 1) := by decide +kernel
theorem dX0_add_0 : decode cX0_add 0 = .ok (.aload_n 0, 1) := by decide +kernel
theorem dX0_add_1 : decode cX0_add 1 = .ok (.getfield 9, 3) := by decide +kernel
theorem dX0_add_4 : decode cX0_add 4 = .ok (.aload_n 0, 1) := by decide +kernel
theorem dX0_add_5 : decode cX0_add 5 = .ok (.getfield 25, 3) := by decide +kernel
theorem dX0_add_8 : decode cX0_add 8 = .ok (.iload_n 1, 1) := by decide +kernel
theorem dX0_add_9 : decode cX0_add 9 = .ok (.castore, 1) := by decide +kernel
theorem dX0_add_10 : decode cX0_add 10 = .ok (.aload_n 0, 1) := by decide +kernel
theorem dX0_add_11 : decode cX0_add 11 = .ok (.getfield 15, 3) := by decide +kernel
theorem dX0_add_14 : decode cX0_add 14 = .ok (.aload_n 0, 1) := by decide +kernel
theorem dX0_add_15 : decode cX0_add 15 = .ok (.getfield 25, 3) := by decide +kernel
theorem dX0_add_18 : decode cX0_add 18 = .ok (.iload_n 2, 1) := by decide +kernel
theorem dX0_add_19 : decode cX0_add 19 = .ok (.iastore, 1) := by decide +kernel
theorem dX0_add_20 : decode cX0_add 20 = .ok (.aload_n 0, 1) := by decide +kernel
theorem dX0_add_21 : decode cX0_add 21 = .ok (.getfield 19, 3) := by decide +kernel
theorem dX0_add_24 : decode cX0_add 24 = .ok (.aload_n 0, 1) := by decide +kernel
theorem dX0_add_25 : decode cX0_add 25 = .ok (.getfield 25, 3) := by decide +kernel
theorem dX0_add_28 : decode cX0_add 28 = .ok (.iload_n 3, 1) := by decide +kernel
theorem dX0_add_29 : decode cX0_add 29 = .ok (.iastore, 1) := by decide +kernel
theorem dX0_add_30 : decode cX0_add 30 = .ok (.aload_n 0, 1) := by decide +kernel
theorem dX0_add_31 : decode cX0_add 31 = .ok (.getfield 22, 3) := by decide +kernel
theorem dX0_add_34 : decode cX0_add 34 = .ok (.aload_n 0, 1) := by decide +kernel
theorem dX0_add_35 : decode cX0_add 35 = .ok (.getfield 25, 3) := by decide +kernel
theorem dX0_add_38 : decode cX0_add 38 = .ok (.iload 4, 2) := by decide +kernel
theorem dX0_add_40 : decode cX0_add 40 = .ok (.iastore, 1) := by decide +kernel
theorem dX0_add_41 : decode cX0_add 41 = .ok (.aload_n 0, 1) := by decide +kernel
theorem dX0_add_42 : decode cX0_add 42 = .ok (.dup, 1) := by decide +kernel
theorem dX0_add_43 : decode cX0_add 43 = .ok (.getfield 25, 3) := by decide +kernel
theorem dX0_add_46 : decode cX0_add 46 = .ok (.iconst 1, 1) := by decide +kernel
theorem dX0_add_47 : decode cX0_add 47 = .ok (.iadd, 1) := by decide +kernel
theorem dX0_add_48 : decode cX0_add 48 = .ok (.putfield 25, 3) := by decide +kernel
theorem dX0_add_51 : decode cX0_add 51 = .ok (.aload_n 0, 1) := by decide +kernel
theorem dX0_add_52 : decode cX0_add 52 = .ok (.getfield 25, 3) := by decide +kernel
theorem dX0_add_55 : decode cX0_add 55 = .ok (.ireturn, 1) := by decide +kernel
theorem dX0_copyFrom_0 : decode cX0_copyFrom 0 = .ok (.iconst 0, 1) := by decide +kernel
theorem dX0_copyFrom_1 : decode cX0_copyFrom 1 = .ok (.istore_n 2, 1) := by decide +kernel
theorem dX0_copyFrom_2 : decode cX0_copyFrom 2 = .ok (.iload_n 2, 1) := by decide +kernel
theorem dX0_copyFrom_3 : decode cX0_copyFrom 3 = .ok (.aload_n 1, 1) := by decide +kernel
theorem dX0_copyFrom_4 : decode cX0_copyFrom 4 = .ok (.getfield 25, 3) := by decide +kernel
theorem dX0_copyFrom_7 : decode cX0_copyFrom 7 = .ok (.if_icmp .ge 57, 3) := by decide +kernel
theorem dX0_copyFrom_10 : decode cX0_copyFrom 10 = .ok (.aload_n 0, 1) := by decide +kernel
theorem dX0_copyFrom_11 : decode cX0_copyFrom 11 = .ok (.getfield 9, 3) := by decide +kernel
theorem dX0_copyFrom_14 : decode cX0_copyFrom 14 = .ok (.iload_n 2, 1) := by decide +kernel
theorem dX0_copyFrom_15 : decode cX0_copyFrom 15 = .ok (.aload_n 1, 1) := by decide +kernel
theorem dX0_copyFrom_16 : decode cX0_copyFrom 16 = .ok (.getfield 9, 3) := by decide +kernel
theorem dX0_copyFrom_19 : decode cX0_copyFrom 19 = .ok (.iload_n 2, 1) := by decide +kernel
theorem dX0_copyFrom_20 : decode cX0_copyFrom 20 = .ok (.caload, 1) := by decide +kernel
theorem dX0_copyFrom_21 : decode cX0_copyFrom 21 = .ok (.castore, 1) := by decide +kernel
theorem dX0_copyFrom_22 : decode cX0_copyFrom 22 = .ok (.aload_n 0, 1) := by decide +kernel
theorem dX0_copyFrom_23 : decode cX0_copyFrom 23 = .ok (.getfield 15, 3) := by decide +kernel
theorem dX0_copyFrom_26 : decode cX0_copyFrom 26 = .ok (.iload_n 2, 1) := by decide +kernel
theorem dX0_copyFrom_27 : decode cX0_copyFrom 27 = .ok (.aload_n 1, 1) := by decide +kernel
theorem dX0_copyFrom_28 : decode cX0_copyFrom 28 = .ok (.getfield 15, 3) := by decide +kernel
theorem dX0_copyFrom_31 : decode cX0_copyFrom 31 = .ok (.iload_n 2, 1) := by decide +kernel
theorem dX0_copyFrom_32 : decode cX0_copyFrom 32 = .ok (.iaload, 1) := by decide +kernel
theorem dX0_copyFrom_33 : decode cX0_copyFrom 33 = .ok (.iastore, 1) := by decide +kernel
theorem dX0_copyFrom_34 : decode cX0_copyFrom 34 = .ok (.aload_n 0, 1) := by decide +kernel
theorem dX0_copyFrom_35 : decode cX0_copyFrom 35 = .ok (.getfield 19, 3) := by decide +kernel
theorem dX0_copyFrom_38 : decode cX0_copyFrom 38 = .ok (.iload_n 2, 1) := by decide +kernel
theorem dX0_copyFrom_39 : decode cX0_copyFrom 39 = .ok (.aload_n 1, 1) := by decide +kernel
theorem dX0_copyFrom_40 : decode cX0_copyFrom 40 = .ok (.getfield 19, 3) := by decide +kernel
theorem dX0_copyFrom_43 : decode cX0_copyFrom 43 = .ok (.iload_n 2, 1) := by decide +kernel
theorem dX0_copyFrom_44 : decode cX0_copyFrom 44 = .ok (.iaload, 1) := by decide +kernel
theorem dX0_copyFrom_45 : decode cX0_copyFrom 45 = .ok (.iastore, 1) := by decide +kernel
theorem dX0_copyFrom_46 : decode cX0_copyFrom 46 = .ok (.aload_n 0, 1) := by decide +kernel
theorem dX0_copyFrom_47 : decode cX0_copyFrom 47 = .ok (.getfield 22, 3) := by decide +kernel
theorem dX0_copyFrom_50 : decode cX0_copyFrom 50 = .ok (.iload_n 2, 1) := by decide +kernel
theorem dX0_copyFrom_51 : decode cX0_copyFrom 51 = .ok (.aload_n 1, 1) := by decide +kernel
theorem dX0_copyFrom_52 : decode cX0_copyFrom 52 = .ok (.getfield 22, 3) := by decide +kernel
theorem dX0_copyFrom_55 : decode cX0_copyFrom 55 = .ok (.iload_n 2, 1) := by decide +kernel
theorem dX0_copyFrom_56 : decode cX0_copyFrom 56 = .ok (.iaload, 1) := by decide +kernel
theorem dX0_copyFrom_57 : decode cX0_copyFrom 57 = .ok (.iastore, 1) := by decide +kernel
theorem dX0_copyFrom_58 : decode cX0_copyFrom 58 = .ok (.iinc 2 1, 3) := by decide +kernel
theorem dX0_copyFrom_61 : decode cX0_copyFrom 61 = .ok (.goto (-59), 3) := by decide +kernel
theorem dX0_copyFrom_64 : decode cX0_copyFrom 64 = .ok (.aload_n 0, 1) := by decide +kernel
theorem dX0_copyFrom_65 : decode cX0_copyFrom 65 = .ok (.aload_n 1, 1) := by decide +kernel
theorem dX0_copyFrom_66 : decode cX0_copyFrom 66 = .ok (.getfield 25, 3) := by decide +kernel
theorem dX0_copyFrom_69 : decode cX0_copyFrom 69 = .ok (.putfield 25, 3) := by decide +kernel
theorem dX0_copyFrom_72 : decode cX0_copyFrom 72 = .ok (.return_, 1) := by decide +kernel
theorem dX0_shift_0 : decode cX0_shift 0 = .ok (.aload_n 0, 1) := by decide +kernel
theorem dX0_shift_1 : decode cX0_shift 1 = .ok (.getfield 9, 3) := by decide +kernel
theorem dX0_shift_4 : decode cX0_shift 4 = .ok (.iload_n 2, 1) := by decide +kernel
theorem dX0_shift_5 : decode cX0_shift 5 = .ok (.aload_n 0, 1) := by decide +kernel
theorem dX0_shift_6 : decode cX0_shift 6 = .ok (.getfield 9, 3) := by decide +kernel
theorem dX0_shift_9 : decode cX0_shift 9 = .ok (.iload_n 1, 1) := by decide +kernel
theorem dX0_shift_10 : decode cX0_shift 10 = .ok (.caload, 1) := by decide +kernel
theorem dX0_shift_11 : decode cX0_shift 11 = .ok (.castore, 1) := by decide +kernel
theorem dX0_shift_12 : decode cX0_shift 12 = .ok (.aload_n 0, 1) := by decide +kernel
theorem dX0_shift_13 : decode cX0_shift 13 = .ok (.getfield 15, 3) := by decide +kernel
theorem dX0_shift_16 : decode cX0_shift 16 = .ok (.iload_n 2, 1) := by decide +kernel
theorem dX0_shift_17 : decode cX0_shift 17 = .ok (.aload_n 0, 1) := by decide +kernel
theorem dX0_shift_18 : decode cX0_shift 18 = .ok (.getfield 15, 3) := by decide +kernel
theorem dX0_shift_21 : decode cX0_shift 21 = .ok (.iload_n 1, 1) := by decide +kernel
theorem dX0_shift_22 : decode cX0_shift 22 = .ok (.iaload, 1) := by decide +kernel
theorem dX0_shift_23 : decode cX0_shift 23 = .ok (.iastore, 1) := by decide +kernel
theorem dX0_shift_24 : decode cX0_shift 24 = .ok (.aload_n 0, 1) := by decide +kernel
theorem dX0_shift_25 : decode cX0_shift 25 = .ok (.getfield 19, 3) := by decide +kernel
theorem dX0_shift_28 : decode cX0_shift 28 = .ok (.iload_n 2, 1) := by decide +kernel
theorem dX0_shift_29 : decode cX0_shift 29 = .ok (.aload_n 0, 1) := by decide +kernel
theorem dX0_shift_30 : decode cX0_shift 30 = .ok (.getfield 19, 3) := by decide +kernel
theorem dX0_shift_33 : decode cX0_shift 33 = .ok (.iload_n 1, 1) := by decide +kernel
theorem dX0_shift_34 : decode cX0_shift 34 = .ok (.iaload, 1) := by decide +kernel
theorem dX0_shift_35 : decode cX0_shift 35 = .ok (.iastore, 1) := by decide +kernel
theorem dX0_shift_36 : decode cX0_shift 36 = .ok (.aload_n 0, 1) := by decide +kernel
theorem dX0_shift_37 : decode cX0_shift 37 = .ok (.getfield 22, 3) := by decide +kernel
theorem dX0_shift_40 : decode cX0_shift 40 = .ok (.iload_n 2, 1) := by decide +kernel
theorem dX0_shift_41 : decode cX0_shift 41 = .ok (.aload_n 0, 1) := by decide +kernel
theorem dX0_shift_42 : decode cX0_shift 42 = .ok (.getfield 22, 3) := by decide +kernel
theorem dX0_shift_45 : decode cX0_shift 45 = .ok (.iload_n 1, 1) := by decide +kernel
theorem dX0_shift_46 : decode cX0_shift 46 = .ok (.iaload, 1) := by decide +kernel
theorem dX0_shift_47 : decode cX0_shift 47 = .ok (.iastore, 1) := by decide +kernel
theorem dX0_shift_48 : decode cX0_shift 48 = .ok (.return_, 1) := by decide +kernel
theorem dX0_hasArrived_0 : decode cX0_hasArrived 0 = .ok (.iload_n 2, 1) := by decide +kernel
theorem dX0_hasArrived_1 : decode cX0_hasArrived 1 = .ok (.aload_n 0, 1) := by decide +kernel
theorem dX0_hasArrived_2 : decode cX0_hasArrived 2 = .ok (.getfield 19, 3) := by decide +kernel
theorem dX0_hasArrived_5 : decode cX0_hasArrived 5 = .ok (.iload_n 1, 1) := by decide +kernel
theorem dX0_hasArrived_6 : decode cX0_hasArrived 6 = .ok (.iaload, 1) := by decide +kernel
theorem dX0_hasArrived_7 : decode cX0_hasArrived 7 = .ok (.if_icmp .lt 7, 3) := by decide +kernel
theorem dX0_hasArrived_10 : decode cX0_hasArrived 10 = .ok (.iconst 1, 1) := by decide +kernel
theorem dX0_hasArrived_11 : decode cX0_hasArrived 11 = .ok (.goto 4, 3) := by decide +kernel
theorem dX0_hasArrived_14 : decode cX0_hasArrived 14 = .ok (.iconst 0, 1) := by decide +kernel
theorem dX0_hasArrived_15 : decode cX0_hasArrived 15 = .ok (.ireturn, 1) := by decide +kernel
theorem dX0_isOver_0 : decode cX0_isOver 0 = .ok (.iload_n 2, 1) := by decide +kernel
theorem dX0_isOver_1 : decode cX0_isOver 1 = .ok (.aload_n 0, 1) := by decide +kernel
theorem dX0_isOver_2 : decode cX0_isOver 2 = .ok (.getfield 19, 3) := by decide +kernel
theorem dX0_isOver_5 : decode cX0_isOver 5 = .ok (.iload_n 1, 1) := by decide +kernel
theorem dX0_isOver_6 : decode cX0_isOver 6 = .ok (.iaload, 1) := by decide +kernel
theorem dX0_isOver_7 : decode cX0_isOver 7 = .ok (.isub, 1) := by decide +kernel
theorem dX0_isOver_8 : decode cX0_isOver 8 = .ok (.aload_n 0, 1) := by decide +kernel
theorem dX0_isOver_9 : decode cX0_isOver 9 = .ok (.getfield 22, 3) := by decide +kernel
theorem dX0_isOver_12 : decode cX0_isOver 12 = .ok (.iload_n 1, 1) := by decide +kernel
theorem dX0_isOver_13 : decode cX0_isOver 13 = .ok (.iaload, 1) := by decide +kernel
theorem dX0_isOver_14 : decode cX0_isOver 14 = .ok (.if_icmp .le 7, 3) := by decide +kernel
theorem dX0_isOver_17 : decode cX0_isOver 17 = .ok (.iconst 1, 1) := by decide +kernel
theorem dX0_isOver_18 : decode cX0_isOver 18 = .ok (.goto 4, 3) := by decide +kernel
theorem dX0_isOver_21 : decode cX0_isOver 21 = .ok (.iconst 0, 1) := by decide +kernel
theorem dX0_isOver_22 : decode cX0_isOver 22 = .ok (.ireturn, 1) := by decide +kernel
theorem dX0_hasOverdue_0 : decode cX0_hasOverdue 0 = .ok (.iconst 0, 1) := by decide +kernel
theorem dX0_hasOverdue_1 : decode cX0_hasOverdue 1 = .ok (.istore_n 2, 1) := by decide +kernel
theorem dX0_hasOverdue_2 : decode cX0_hasOverdue 2 = .ok (.iload_n 2, 1) := by decide +kernel
theorem dX0_hasOverdue_3 : decode cX0_hasOverdue 3 = .ok (.aload_n 0, 1) := by decide +kernel
theorem dX0_hasOverdue_4 : decode cX0_hasOverdue 4 = .ok (.getfield 25, 3) := by decide +kernel
theorem dX0_hasOverdue_7 : decode cX0_hasOverdue 7 = .ok (.if_icmp .ge 30, 3) := by decide +kernel
theorem dX0_hasOverdue_10 : decode cX0_hasOverdue 10 = .ok (.iload_n 1, 1) := by decide +kernel
theorem dX0_hasOverdue_11 : decode cX0_hasOverdue 11 = .ok (.aload_n 0, 1) := by decide +kernel
theorem dX0_hasOverdue_12 : decode cX0_hasOverdue 12 = .ok (.getfield 19, 3) := by decide +kernel
theorem dX0_hasOverdue_15 : decode cX0_hasOverdue 15 = .ok (.iload_n 2, 1) := by decide +kernel
theorem dX0_hasOverdue_16 : decode cX0_hasOverdue 16 = .ok (.iaload, 1) := by decide +kernel
theorem dX0_hasOverdue_17 : decode cX0_hasOverdue 17 = .ok (.isub, 1) := by decide +kernel
theorem dX0_hasOverdue_18 : decode cX0_hasOverdue 18 = .ok (.aload_n 0, 1) := by decide +kernel
theorem dX0_hasOverdue_19 : decode cX0_hasOverdue 19 = .ok (.getfield 22, 3) := by decide +kernel
theorem dX0_hasOverdue_22 : decode cX0_hasOverdue 22 = .ok (.iload_n 2, 1) := by decide +kernel
theorem dX0_hasOverdue_23 : decode cX0_hasOverdue 23 = .ok (.iaload, 1) := by decide +kernel
theorem dX0_hasOverdue_24 : decode cX0_hasOverdue 24 = .ok (.iconst 1, 1) := by decide +kernel
theorem dX0_hasOverdue_25 : decode cX0_hasOverdue 25 = .ok (.iadd, 1) := by decide +kernel
theorem dX0_hasOverdue_26 : decode cX0_hasOverdue 26 = .ok (.if_icmp .le 5, 3) := by decide +kernel
theorem dX0_hasOverdue_29 : decode cX0_hasOverdue 29 = .ok (.iconst 1, 1) := by decide +kernel
theorem dX0_hasOverdue_30 : decode cX0_hasOverdue 30 = .ok (.ireturn, 1) := by decide +kernel
theorem dX0_hasOverdue_31 : decode cX0_hasOverdue 31 = .ok (.iinc 2 1, 3) := by decide +kernel
theorem dX0_hasOverdue_34 : decode cX0_hasOverdue 34 = .ok (.goto (-32), 3) := by decide +kernel
theorem dX0_hasOverdue_37 : decode cX0_hasOverdue 37 = .ok (.iconst 0, 1) := by decide +kernel
theorem dX0_hasOverdue_38 : decode cX0_hasOverdue 38 = .ok (.ireturn, 1) := by decide +kernel
theorem dX1_init_0 : decode cX1_init 0 = .ok (.aload_n 0, 1) := by decide +kernel
theorem dX1_init_1 : decode cX1_init 1 = .ok (.invokespecial 3, 3) := by decide +kernel
theorem dX1_init_4 : decode cX1_init 4 = .ok (.aload_n 0, 1) := by decide +kernel
theorem dX1_init_5 : decode cX1_init 5 = .ok (.bipush 6, 2) := by decide +kernel
theorem dX1_init_7 : decode cX1_init 7 = .ok (.newarray .int, 2) := by decide +kernel
theorem dX1_init_9 : decode cX1_init 9 = .ok (.putfield 9, 3) := by decide +kernel
theorem dX1_init_12 : decode cX1_init 12 = .ok (.aload_n 0, 1) := by decide +kernel
theorem dX1_init_13 : decode cX1_init 13 = .ok (.bipush 6, 2) := by decide +kernel
theorem dX1_init_15 : decode cX1_init 15 = .ok (.newarray .char, 2) := by decide +kernel
theorem dX1_init_17 : decode cX1_init 17 = .ok (.putfield 15, 3) := by decide +kernel
theorem dX1_init_20 : decode cX1_init 20 = .ok (.aload_n 0, 1) := by decide +kernel
theorem dX1_init_21 : decode cX1_init 21 = .ok (.bipush 6, 2) := by decide +kernel
theorem dX1_init_23 : decode cX1_init 23 = .ok (.newarray .int, 2) := by decide +kernel
theorem dX1_init_25 : decode cX1_init 25 = .ok (.putfield 19, 3) := by decide +kernel
theorem dX1_init_28 : decode cX1_init 28 = .ok (.aload_n 0, 1) := by decide +kernel
theorem dX1_init_29 : decode cX1_init 29 = .ok (.bipush 6, 2) := by decide +kernel
theorem dX1_init_31 : decode cX1_init 31 = .ok (.newarray .boolean, 2) := by decide +kernel
theorem dX1_init_33 : decode cX1_init 33 = .ok (.putfield 22, 3) := by decide +kernel
theorem dX1_init_36 : decode cX1_init 36 = .ok (.return_, 1) := by decide +kernel
theorem dX1_isFull_0 : decode cX1_isFull 0 = .ok (.aload_n 0, 1) := by decide +kernel
theorem dX1_isFull_1 : decode cX1_isFull 1 = .ok (.getfield 26, 3) := by decide +kernel
theorem dX1_isFull_4 : decode cX1_isFull 4 = .ok (.bipush 6, 2) := by decide +kernel
theorem dX1_isFull_6 : decode cX1_isFull 6 = .ok (.if_icmp .lt 7, 3) := by decide +kernel
theorem dX1_isFull_9 : decode cX1_isFull 9 = .ok (.iconst 1, 1) := by decide +kernel
theorem dX1_isFull_10 : decode cX1_isFull 10 = .ok (.goto 4, 3) := by decide +kernel
theorem dX1_isFull_13 : decode cX1_isFull 13 = .ok (.iconst 0, 1) := by decide +kernel
theorem dX1_isFull_14 : decode cX1_isFull 14 = .ok (.ireturn, 1) := by decide +kernel
theorem dX1_add_0 : decode cX1_add 0 = .ok (.aload_n 0, 1) := by decide +kernel
theorem dX1_add_1 : decode cX1_add 1 = .ok (.getfield 9, 3) := by decide +kernel
theorem dX1_add_4 : decode cX1_add 4 = .ok (.aload_n 0, 1) := by decide +kernel
theorem dX1_add_5 : decode cX1_add 5 = .ok (.getfield 26, 3) := by decide +kernel
theorem dX1_add_8 : decode cX1_add 8 = .ok (.iload_n 1, 1) := by decide +kernel
theorem dX1_add_9 : decode cX1_add 9 = .ok (.iastore, 1) := by decide +kernel
theorem dX1_add_10 : decode cX1_add 10 = .ok (.aload_n 0, 1) := by decide +kernel
theorem dX1_add_11 : decode cX1_add 11 = .ok (.getfield 15, 3) := by decide +kernel
theorem dX1_add_14 : decode cX1_add 14 = .ok (.aload_n 0, 1) := by decide +kernel
theorem dX1_add_15 : decode cX1_add 15 = .ok (.getfield 26, 3) := by decide +kernel
theorem dX1_add_18 : decode cX1_add 18 = .ok (.bipush 114, 2) := by decide +kernel
theorem dX1_add_20 : decode cX1_add 20 = .ok (.castore, 1) := by decide +kernel
theorem dX1_add_21 : decode cX1_add 21 = .ok (.aload_n 0, 1) := by decide +kernel
theorem dX1_add_22 : decode cX1_add 22 = .ok (.dup, 1) := by decide +kernel
theorem dX1_add_23 : decode cX1_add 23 = .ok (.getfield 26, 3) := by decide +kernel
theorem dX1_add_26 : decode cX1_add 26 = .ok (.iconst 1, 1) := by decide +kernel
theorem dX1_add_27 : decode cX1_add 27 = .ok (.iadd, 1) := by decide +kernel
theorem dX1_add_28 : decode cX1_add 28 = .ok (.putfield 26, 3) := by decide +kernel
theorem dX1_add_31 : decode cX1_add 31 = .ok (.aload_n 0, 1) := by decide +kernel
theorem dX1_add_32 : decode cX1_add 32 = .ok (.getfield 26, 3) := by decide +kernel
theorem dX1_add_35 : decode cX1_add 35 = .ok (.iconst 1, 1) := by decide +kernel
theorem dX1_add_36 : decode cX1_add 36 = .ok (.isub, 1) := by decide +kernel
theorem dX1_add_37 : decode cX1_add 37 = .ok (.ireturn, 1) := by decide +kernel
theorem dX1_copyFrom_0 : decode cX1_copyFrom 0 = .ok (.iconst 0, 1) := by decide +kernel
theorem dX1_copyFrom_1 : decode cX1_copyFrom 1 = .ok (.istore_n 2, 1) := by decide +kernel
theorem dX1_copyFrom_2 : decode cX1_copyFrom 2 = .ok (.iload_n 2, 1) := by decide +kernel
theorem dX1_copyFrom_3 : decode cX1_copyFrom 3 = .ok (.aload_n 1, 1) := by decide +kernel
theorem dX1_copyFrom_4 : decode cX1_copyFrom 4 = .ok (.getfield 26, 3) := by decide +kernel
theorem dX1_copyFrom_7 : decode cX1_copyFrom 7 = .ok (.if_icmp .ge 57, 3) := by decide +kernel
theorem dX1_copyFrom_10 : decode cX1_copyFrom 10 = .ok (.aload_n 0, 1) := by decide +kernel
theorem dX1_copyFrom_11 : decode cX1_copyFrom 11 = .ok (.getfield 9, 3) := by decide +kernel
theorem dX1_copyFrom_14 : decode cX1_copyFrom 14 = .ok (.iload_n 2, 1) := by decide +kernel
theorem dX1_copyFrom_15 : decode cX1_copyFrom 15 = .ok (.aload_n 1, 1) := by decide +kernel
theorem dX1_copyFrom_16 : decode cX1_copyFrom 16 = .ok (.getfield 9, 3) := by decide +kernel
theorem dX1_copyFrom_19 : decode cX1_copyFrom 19 = .ok (.iload_n 2, 1) := by decide +kernel
theorem dX1_copyFrom_20 : decode cX1_copyFrom 20 = .ok (.iaload, 1) := by decide +kernel
theorem dX1_copyFrom_21 : decode cX1_copyFrom 21 = .ok (.iastore, 1) := by decide +kernel
theorem dX1_copyFrom_22 : decode cX1_copyFrom 22 = .ok (.aload_n 0, 1) := by decide +kernel
theorem dX1_copyFrom_23 : decode cX1_copyFrom 23 = .ok (.getfield 15, 3) := by decide +kernel
theorem dX1_copyFrom_26 : decode cX1_copyFrom 26 = .ok (.iload_n 2, 1) := by decide +kernel
theorem dX1_copyFrom_27 : decode cX1_copyFrom 27 = .ok (.aload_n 1, 1) := by decide +kernel
theorem dX1_copyFrom_28 : decode cX1_copyFrom 28 = .ok (.getfield 15, 3) := by decide +kernel
theorem dX1_copyFrom_31 : decode cX1_copyFrom 31 = .ok (.iload_n 2, 1) := by decide +kernel
theorem dX1_copyFrom_32 : decode cX1_copyFrom 32 = .ok (.caload, 1) := by decide +kernel
theorem dX1_copyFrom_33 : decode cX1_copyFrom 33 = .ok (.castore, 1) := by decide +kernel
theorem dX1_copyFrom_34 : decode cX1_copyFrom 34 = .ok (.aload_n 0, 1) := by decide +kernel
theorem dX1_copyFrom_35 : decode cX1_copyFrom 35 = .ok (.getfield 19, 3) := by decide +kernel
theorem dX1_copyFrom_38 : decode cX1_copyFrom 38 = .ok (.iload_n 2, 1) := by decide +kernel
theorem dX1_copyFrom_39 : decode cX1_copyFrom 39 = .ok (.aload_n 1, 1) := by decide +kernel
theorem dX1_copyFrom_40 : decode cX1_copyFrom 40 = .ok (.getfield 19, 3) := by decide +kernel
theorem dX1_copyFrom_43 : decode cX1_copyFrom 43 = .ok (.iload_n 2, 1) := by decide +kernel
theorem dX1_copyFrom_44 : decode cX1_copyFrom 44 = .ok (.iaload, 1) := by decide +kernel
theorem dX1_copyFrom_45 : decode cX1_copyFrom 45 = .ok (.iastore, 1) := by decide +kernel
theorem dX1_copyFrom_46 : decode cX1_copyFrom 46 = .ok (.aload_n 0, 1) := by decide +kernel
theorem dX1_copyFrom_47 : decode cX1_copyFrom 47 = .ok (.getfield 22, 3) := by decide +kernel
theorem dX1_copyFrom_50 : decode cX1_copyFrom 50 = .ok (.iload_n 2, 1) := by decide +kernel
theorem dX1_copyFrom_51 : decode cX1_copyFrom 51 = .ok (.aload_n 1, 1) := by decide +kernel
theorem dX1_copyFrom_52 : decode cX1_copyFrom 52 = .ok (.getfield 22, 3) := by decide +kernel
theorem dX1_copyFrom_55 : decode cX1_copyFrom 55 = .ok (.iload_n 2, 1) := by decide +kernel
theorem dX1_copyFrom_56 : decode cX1_copyFrom 56 = .ok (.baload, 1) := by decide +kernel
theorem dX1_copyFrom_57 : decode cX1_copyFrom 57 = .ok (.bastore, 1) := by decide +kernel
theorem dX1_copyFrom_58 : decode cX1_copyFrom 58 = .ok (.iinc 2 1, 3) := by decide +kernel
theorem dX1_copyFrom_61 : decode cX1_copyFrom 61 = .ok (.goto (-59), 3) := by decide +kernel
theorem dX1_copyFrom_64 : decode cX1_copyFrom 64 = .ok (.aload_n 0, 1) := by decide +kernel
theorem dX1_copyFrom_65 : decode cX1_copyFrom 65 = .ok (.aload_n 1, 1) := by decide +kernel
theorem dX1_copyFrom_66 : decode cX1_copyFrom 66 = .ok (.getfield 26, 3) := by decide +kernel
theorem dX1_copyFrom_69 : decode cX1_copyFrom 69 = .ok (.putfield 26, 3) := by decide +kernel
theorem dX1_copyFrom_72 : decode cX1_copyFrom 72 = .ok (.aload_n 0, 1) := by decide +kernel
theorem dX1_copyFrom_73 : decode cX1_copyFrom 73 = .ok (.aload_n 1, 1) := by decide +kernel
theorem dX1_copyFrom_74 : decode cX1_copyFrom 74 = .ok (.getfield 30, 3) := by decide +kernel
theorem dX1_copyFrom_77 : decode cX1_copyFrom 77 = .ok (.putfield 30, 3) := by decide +kernel
theorem dX1_copyFrom_80 : decode cX1_copyFrom 80 = .ok (.return_, 1) := by decide +kernel
theorem dX1_alive_0 : decode cX1_alive 0 = .ok (.aload_n 0, 1) := by decide +kernel
theorem dX1_alive_1 : decode cX1_alive 1 = .ok (.getfield 26, 3) := by decide +kernel
theorem dX1_alive_4 : decode cX1_alive 4 = .ok (.aload_n 0, 1) := by decide +kernel
theorem dX1_alive_5 : decode cX1_alive 5 = .ok (.getfield 30, 3) := by decide +kernel
theorem dX1_alive_8 : decode cX1_alive 8 = .ok (.isub, 1) := by decide +kernel
theorem dX1_alive_9 : decode cX1_alive 9 = .ok (.ireturn, 1) := by decide +kernel
set_option maxRecDepth 20000 in
theorem ggX1_breathe_X1_neededBy : GoodIn wsX1_breathe wsX1_neededBy := goodIn_r _ [10] (by decide +kernel) (by decide +kernel)
set_option maxRecDepth 20000 in
theorem gX1_breathe_X1_neededBy : GoodIn wsX1_breathe (va_wsS RX1 33 yX1_neededBy wsX1_neededBy) := goodIn_app (goodIn_of _ (by decide +kernel)) ggX1_breathe_X1_neededBy
set_option maxRecDepth 20000 in
theorem ggX1_breathe_X5_turnToCarbon : GoodIn wsX1_breathe wsX5_turnToCarbon := goodIn_ca (goodIn_r _ [15, 16, 17, 18, 19, 20, 21, 22, 23, 24, 14, 25, 26, 40, 41, 42, 43, 44] (by decide +kernel) (by decide +kernel)) (goodIn_sub (fun _ h => List.mem_cons_of_mem _ (List.mem_append_right _ h)) (by decide +kernel))
set_option maxRecDepth 20000 in
theorem gX1_breathe_X5_turnToCarbon : GoodIn wsX1_breathe (wsV RX1 37 RX5 yX5_turnToCarbon wsX5_turnToCarbon) := goodIn_app (goodIn_of _ (by decide +kernel)) ggX1_breathe_X5_turnToCarbon
set_option maxRecDepth 20000 in
theorem ggX1_breathe_X3_add : GoodIn wsX1_breathe wsX3_add := goodIn_ca (goodIn_r _ [31, 32, 33, 45, 46] (by decide +kernel) (by decide +kernel)) (goodIn_sub (fun _ h => List.mem_cons_of_mem _ (List.mem_append_right _ h)) (by decide +kernel))
set_option maxRecDepth 20000 in
theorem gX1_breathe_X3_add : GoodIn wsX1_breathe (wsV RX1 43 RX3 yX3_add wsX3_add) := goodIn_app (goodIn_of _ (by decide +kernel)) ggX1_breathe_X3_add
theorem dX1_breathe_0 : decode cX1_breathe 0 = .ok (.iconst 0, 1) := by decide +kernel
theorem dX1_breathe_1 : decode cX1_breathe 1 = .ok (.istore 4, 2) := by decide +kernel
theorem dX1_breathe_3 : decode cX1_breathe 3 = .ok (.iload 4, 2) := by decide +kernel
theorem dX1_breathe_5 : decode cX1_breathe 5 = .ok (.aload_n 0, 1) := by decide +kernel
theorem dX1_breathe_6 : decode cX1_breathe 6 = .ok (.getfield 26, 3) := by decide +kernel
theorem dX1_breathe_9 : decode cX1_breathe 9 = .ok (.if_icmp .ge 117, 3) := by decide +kernel
theorem dX1_breathe_12 : decode cX1_breathe 12 = .ok (.aload_n 0, 1) := by decide +kernel
theorem dX1_breathe_13 : decode cX1_breathe 13 = .ok (.getfield 22, 3) := by decide +kernel
theorem dX1_breathe_16 : decode cX1_breathe 16 = .ok (.iload 4, 2) := by decide +kernel
theorem dX1_breathe_18 : decode cX1_breathe 18 = .ok (.baload, 1) := by decide +kernel
theorem dX1_breathe_19 : decode cX1_breathe 19 = .ok (.ifCond .ne 101, 3) := by decide +kernel
theorem dX1_breathe_22 : decode cX1_breathe 22 = .ok (.aload_n 0, 1) := by decide +kernel
theorem dX1_breathe_23 : decode cX1_breathe 23 = .ok (.getfield 15, 3) := by decide +kernel
theorem dX1_breathe_26 : decode cX1_breathe 26 = .ok (.iload 4, 2) := by decide +kernel
theorem dX1_breathe_28 : decode cX1_breathe 28 = .ok (.caload, 1) := by decide +kernel
theorem dX1_breathe_29 : decode cX1_breathe 29 = .ok (.iload_n 3, 1) := by decide +kernel
theorem dX1_breathe_30 : decode cX1_breathe 30 = .ok (.invokestatic 33, 3) := by decide +kernel
theorem dX1_breathe_33 : decode cX1_breathe 33 = .ok (.istore 5, 2) := by decide +kernel
theorem dX1_breathe_35 : decode cX1_breathe 35 = .ok (.aload_n 1, 1) := by decide +kernel
theorem dX1_breathe_36 : decode cX1_breathe 36 = .ok (.aload_n 0, 1) := by decide +kernel
theorem dX1_breathe_37 : decode cX1_breathe 37 = .ok (.getfield 9, 3) := by decide +kernel
theorem dX1_breathe_40 : decode cX1_breathe 40 = .ok (.iload 4, 2) := by decide +kernel
theorem dX1_breathe_42 : decode cX1_breathe 42 = .ok (.iaload, 1) := by decide +kernel
theorem dX1_breathe_43 : decode cX1_breathe 43 = .ok (.iload 5, 2) := by decide +kernel
theorem dX1_breathe_45 : decode cX1_breathe 45 = .ok (.invokevirtual 37, 3) := by decide +kernel
theorem dX1_breathe_48 : decode cX1_breathe 48 = .ok (.iload 5, 2) := by decide +kernel
theorem dX1_breathe_50 : decode cX1_breathe 50 = .ok (.if_icmp .ge 7, 3) := by decide +kernel
theorem dX1_breathe_53 : decode cX1_breathe 53 = .ok (.iconst 1, 1) := by decide +kernel
theorem dX1_breathe_54 : decode cX1_breathe 54 = .ok (.goto 4, 3) := by decide +kernel
theorem dX1_breathe_57 : decode cX1_breathe 57 = .ok (.iconst 0, 1) := by decide +kernel
theorem dX1_breathe_58 : decode cX1_breathe 58 = .ok (.istore 6, 2) := by decide +kernel
theorem dX1_breathe_60 : decode cX1_breathe 60 = .ok (.aload_n 0, 1) := by decide +kernel
theorem dX1_breathe_61 : decode cX1_breathe 61 = .ok (.getfield 19, 3) := by decide +kernel
theorem dX1_breathe_64 : decode cX1_breathe 64 = .ok (.iload 4, 2) := by decide +kernel
theorem dX1_breathe_66 : decode cX1_breathe 66 = .ok (.iload 6, 2) := by decide +kernel
theorem dX1_breathe_68 : decode cX1_breathe 68 = .ok (.ifCond .eq 15, 3) := by decide +kernel
theorem dX1_breathe_71 : decode cX1_breathe 71 = .ok (.aload_n 0, 1) := by decide +kernel
theorem dX1_breathe_72 : decode cX1_breathe 72 = .ok (.getfield 19, 3) := by decide +kernel
theorem dX1_breathe_75 : decode cX1_breathe 75 = .ok (.iload 4, 2) := by decide +kernel
theorem dX1_breathe_77 : decode cX1_breathe 77 = .ok (.iaload, 1) := by decide +kernel
theorem dX1_breathe_78 : decode cX1_breathe 78 = .ok (.iconst 1, 1) := by decide +kernel
theorem dX1_breathe_79 : decode cX1_breathe 79 = .ok (.iadd, 1) := by decide +kernel
theorem dX1_breathe_80 : decode cX1_breathe 80 = .ok (.goto 4, 3) := by decide +kernel
theorem dX1_breathe_83 : decode cX1_breathe 83 = .ok (.iconst 0, 1) := by decide +kernel
theorem dX1_breathe_84 : decode cX1_breathe 84 = .ok (.iastore, 1) := by decide +kernel
theorem dX1_breathe_85 : decode cX1_breathe 85 = .ok (.aload_n 0, 1) := by decide +kernel
theorem dX1_breathe_86 : decode cX1_breathe 86 = .ok (.getfield 19, 3) := by decide +kernel
theorem dX1_breathe_89 : decode cX1_breathe 89 = .ok (.iload 4, 2) := by decide +kernel
theorem dX1_breathe_91 : decode cX1_breathe 91 = .ok (.iaload, 1) := by decide +kernel
theorem dX1_breathe_92 : decode cX1_breathe 92 = .ok (.iconst 3, 1) := by decide +kernel
theorem dX1_breathe_93 : decode cX1_breathe 93 = .ok (.if_icmp .lt 27, 3) := by decide +kernel
theorem dX1_breathe_96 : decode cX1_breathe 96 = .ok (.aload_n 0, 1) := by decide +kernel
theorem dX1_breathe_97 : decode cX1_breathe 97 = .ok (.getfield 22, 3) := by decide +kernel
theorem dX1_breathe_100 : decode cX1_breathe 100 = .ok (.iload 4, 2) := by decide +kernel
theorem dX1_breathe_102 : decode cX1_breathe 102 = .ok (.iconst 1, 1) := by decide +kernel
theorem dX1_breathe_103 : decode cX1_breathe 103 = .ok (.bastore, 1) := by decide +kernel
theorem dX1_breathe_104 : decode cX1_breathe 104 = .ok (.aload_n 0, 1) := by decide +kernel
theorem dX1_breathe_105 : decode cX1_breathe 105 = .ok (.dup, 1) := by decide +kernel
theorem dX1_breathe_106 : decode cX1_breathe 106 = .ok (.getfield 30, 3) := by decide +kernel
theorem dX1_breathe_109 : decode cX1_breathe 109 = .ok (.iconst 1, 1) := by decide +kernel
theorem dX1_breathe_110 : decode cX1_breathe 110 = .ok (.iadd, 1) := by decide +kernel
theorem dX1_breathe_111 : decode cX1_breathe 111 = .ok (.putfield 30, 3) := by decide +kernel
theorem dX1_breathe_114 : decode cX1_breathe 114 = .ok (.aload_n 2, 1) := by decide +kernel
theorem dX1_breathe_115 : decode cX1_breathe 115 = .ok (.bipush 107, 2) := by decide +kernel
theorem dX1_breathe_117 : decode cX1_breathe 117 = .ok (.invokevirtual 43, 3) := by decide +kernel
theorem dX1_breathe_120 : decode cX1_breathe 120 = .ok (.iinc 4 1, 3) := by decide +kernel
theorem dX1_breathe_123 : decode cX1_breathe 123 = .ok (.goto (-120), 3) := by decide +kernel
theorem dX1_breathe_126 : decode cX1_breathe 126 = .ok (.return_, 1) := by decide +kernel
set_option maxRecDepth 20000 in
theorem ggX1_isInDanger_X5_isDangerous : GoodIn wsX1_isInDanger wsX5_isDangerous := goodIn_ca (goodIn_r _ [8, 9, 10, 11, 12, 13, 7, 14, 15, 22, 23, 24, 25, 26] (by decide +kernel) (by decide +kernel)) (goodIn_sub (fun _ h => List.mem_cons_of_mem _ (List.mem_append_right _ h)) (by decide +kernel))
set_option maxRecDepth 20000 in
theorem gX1_isInDanger_X5_isDangerous : GoodIn wsX1_isInDanger (wsV RX1 49 RX5 yX5_isDangerous wsX5_isDangerous) := goodIn_app (goodIn_of _ (by decide +kernel)) ggX1_isInDanger_X5_isDangerous
theorem dX1_isInDanger_0 : decode cX1_isInDanger 0 = .ok (.iconst 0, 1) := by decide +kernel
theorem dX1_isInDanger_1 : decode cX1_isInDanger 1 = .ok (.istore_n 2, 1) := by decide +kernel
theorem dX1_isInDanger_2 : decode cX1_isInDanger 2 = .ok (.iload_n 2, 1) := by decide +kernel
theorem dX1_isInDanger_3 : decode cX1_isInDanger 3 = .ok (.aload_n 0, 1) := by decide +kernel
theorem dX1_isInDanger_4 : decode cX1_isInDanger 4 = .ok (.getfield 26, 3) := by decide +kernel
theorem dX1_isInDanger_7 : decode cX1_isInDanger 7 = .ok (.if_icmp .ge 33, 3) := by decide +kernel
theorem dX1_isInDanger_10 : decode cX1_isInDanger 10 = .ok (.aload_n 0, 1) := by decide +kernel
theorem dX1_isInDanger_11 : decode cX1_isInDanger 11 = .ok (.getfield 22, 3) := by decide +kernel
theorem dX1_isInDanger_14 : decode cX1_isInDanger 14 = .ok (.iload_n 2, 1) := by decide +kernel
theorem dX1_isInDanger_15 : decode cX1_isInDanger 15 = .ok (.baload, 1) := by decide +kernel
theorem dX1_isInDanger_16 : decode cX1_isInDanger 16 = .ok (.ifCond .ne 18, 3) := by decide +kernel
theorem dX1_isInDanger_19 : decode cX1_isInDanger 19 = .ok (.aload_n 1, 1) := by decide +kernel
theorem dX1_isInDanger_20 : decode cX1_isInDanger 20 = .ok (.aload_n 0, 1) := by decide +kernel
theorem dX1_isInDanger_21 : decode cX1_isInDanger 21 = .ok (.getfield 9, 3) := by decide +kernel
theorem dX1_isInDanger_24 : decode cX1_isInDanger 24 = .ok (.iload_n 2, 1) := by decide +kernel
theorem dX1_isInDanger_25 : decode cX1_isInDanger 25 = .ok (.iaload, 1) := by decide +kernel
theorem dX1_isInDanger_26 : decode cX1_isInDanger 26 = .ok (.invokevirtual 49, 3) := by decide +kernel
theorem dX1_isInDanger_29 : decode cX1_isInDanger 29 = .ok (.ifCond .eq 5, 3) := by decide +kernel
theorem dX1_isInDanger_32 : decode cX1_isInDanger 32 = .ok (.iconst 1, 1) := by decide +kernel
theorem dX1_isInDanger_33 : decode cX1_isInDanger 33 = .ok (.ireturn, 1) := by decide +kernel
theorem dX1_isInDanger_34 : decode cX1_isInDanger 34 = .ok (.iinc 2 1, 3) := by decide +kernel
theorem dX1_isInDanger_37 : decode cX1_isInDanger 37 = .ok (.goto (-35), 3) := by decide +kernel
theorem dX1_isInDanger_40 : decode cX1_isInDanger 40 = .ok (.iconst 0, 1) := by decide +kernel
theorem dX1_isInDanger_41 : decode cX1_isInDanger 41 = .ok (.ireturn, 1) := by decide +kernel
theorem dX1_stopWork_0 : decode cX1_stopWork 0 = .ok (.iconst 0, 1) := by decide +kernel
theorem dX1_stopWork_1 : decode cX1_stopWork 1 = .ok (.istore_n 1, 1) := by decide +kernel
theorem dX1_stopWork_2 : decode cX1_stopWork 2 = .ok (.iload_n 1, 1) := by decide +kernel
theorem dX1_stopWork_3 : decode cX1_stopWork 3 = .ok (.aload_n 0, 1) := by decide +kernel
theorem dX1_stopWork_4 : decode cX1_stopWork 4 = .ok (.getfield 26, 3) := by decide +kernel
theorem dX1_stopWork_7 : decode cX1_stopWork 7 = .ok (.if_icmp .ge 28, 3) := by decide +kernel
theorem dX1_stopWork_10 : decode cX1_stopWork 10 = .ok (.aload_n 0, 1) := by decide +kernel
theorem dX1_stopWork_11 : decode cX1_stopWork 11 = .ok (.getfield 15, 3) := by decide +kernel
theorem dX1_stopWork_14 : decode cX1_stopWork 14 = .ok (.iload_n 1, 1) := by decide +kernel
theorem dX1_stopWork_15 : decode cX1_stopWork 15 = .ok (.caload, 1) := by decide +kernel
theorem dX1_stopWork_16 : decode cX1_stopWork 16 = .ok (.bipush 119, 2) := by decide +kernel
theorem dX1_stopWork_18 : decode cX1_stopWork 18 = .ok (.if_icmp .ne 11, 3) := by decide +kernel
theorem dX1_stopWork_21 : decode cX1_stopWork 21 = .ok (.aload_n 0, 1) := by decide +kernel
theorem dX1_stopWork_22 : decode cX1_stopWork 22 = .ok (.getfield 15, 3) := by decide +kernel
theorem dX1_stopWork_25 : decode cX1_stopWork 25 = .ok (.iload_n 1, 1) := by decide +kernel
theorem dX1_stopWork_26 : decode cX1_stopWork 26 = .ok (.bipush 114, 2) := by decide +kernel
theorem dX1_stopWork_28 : decode cX1_stopWork 28 = .ok (.castore, 1) := by decide +kernel
theorem dX1_stopWork_29 : decode cX1_stopWork 29 = .ok (.iinc 1 1, 3) := by decide +kernel
theorem dX1_stopWork_32 : decode cX1_stopWork 32 = .ok (.goto (-30), 3) := by decide +kernel
theorem dX1_stopWork_35 : decode cX1_stopWork 35 = .ok (.return_, 1) := by decide +kernel
theorem dX1_neededBy_0 : decode cX1_neededBy 0 = .ok (.iload_n 0, 1) := by decide +kernel
theorem dX1_neededBy_1 : decode cX1_neededBy 1 = .ok (.bipush 115, 2) := by decide +kernel
theorem dX1_neededBy_3 : decode cX1_neededBy 3 = .ok (.if_icmp .ne 15, 3) := by decide +kernel
theorem dX1_neededBy_6 : decode cX1_neededBy 6 = .ok (.iload_n 1, 1) := by decide +kernel
theorem dX1_neededBy_7 : decode cX1_neededBy 7 = .ok (.iconst 2, 1) := by decide +kernel
theorem dX1_neededBy_8 : decode cX1_neededBy 8 = .ok (.irem, 1) := by decide +kernel
theorem dX1_neededBy_9 : decode cX1_neededBy 9 = .ok (.ifCond .ne 7, 3) := by decide +kernel
theorem dX1_neededBy_12 : decode cX1_neededBy 12 = .ok (.iconst 1, 1) := by decide +kernel
theorem dX1_neededBy_13 : decode cX1_neededBy 13 = .ok (.goto 4, 3) := by decide +kernel
theorem dX1_neededBy_16 : decode cX1_neededBy 16 = .ok (.iconst 0, 1) := by decide +kernel
theorem dX1_neededBy_17 : decode cX1_neededBy 17 = .ok (.ireturn, 1) := by decide +kernel
theorem dX1_neededBy_18 : decode cX1_neededBy 18 = .ok (.iload_n 0, 1) := by decide +kernel
theorem dX1_neededBy_19 : decode cX1_neededBy 19 = .ok (.bipush 119, 2) := by decide +kernel
theorem dX1_neededBy_21 : decode cX1_neededBy 21 = .ok (.if_icmp .ne 7, 3) := by decide +kernel
theorem dX1_neededBy_24 : decode cX1_neededBy 24 = .ok (.iconst 2, 1) := by decide +kernel
theorem dX1_neededBy_25 : decode cX1_neededBy 25 = .ok (.goto 4, 3) := by decide +kernel
theorem dX1_neededBy_28 : decode cX1_neededBy 28 = .ok (.iconst 1, 1) := by decide +kernel
theorem dX1_neededBy_29 : decode cX1_neededBy 29 = .ok (.ireturn, 1) := by decide +kernel
theorem dX2_init_0 : decode cX2_init 0 = .ok (.aload_n 0, 1) := by decide +kernel
theorem dX2_init_1 : decode cX2_init 1 = .ok (.invokespecial 3, 3) := by decide +kernel
theorem dX2_init_4 : decode cX2_init 4 = .ok (.aload_n 0, 1) := by decide +kernel
theorem dX2_init_5 : decode cX2_init 5 = .ok (.bipush 8, 2) := by decide +kernel
theorem dX2_init_7 : decode cX2_init 7 = .ok (.newarray .char, 2) := by decide +kernel
theorem dX2_init_9 : decode cX2_init 9 = .ok (.putfield 9, 3) := by decide +kernel
theorem dX2_init_12 : decode cX2_init 12 = .ok (.aload_n 0, 1) := by decide +kernel
theorem dX2_init_13 : decode cX2_init 13 = .ok (.bipush 8, 2) := by decide +kernel
theorem dX2_init_15 : decode cX2_init 15 = .ok (.newarray .int, 2) := by decide +kernel
theorem dX2_init_17 : decode cX2_init 17 = .ok (.putfield 15, 3) := by decide +kernel
theorem dX2_init_20 : decode cX2_init 20 = .ok (.aload_n 0, 1) := by decide +kernel
theorem dX2_init_21 : decode cX2_init 21 = .ok (.bipush 8, 2) := by decide +kernel
theorem dX2_init_23 : decode cX2_init 23 = .ok (.newarray .boolean, 2) := by decide +kernel
theorem dX2_init_25 : decode cX2_init 25 = .ok (.putfield 19, 3) := by decide +kernel
theorem dX2_init_28 : decode cX2_init 28 = .ok (.aload_n 0, 1) := by decide +kernel
theorem dX2_init_29 : decode cX2_init 29 = .ok (.iconst (-1), 1) := by decide +kernel
theorem dX2_init_30 : decode cX2_init 30 = .ok (.putfield 23, 3) := by decide +kernel
theorem dX2_init_33 : decode cX2_init 33 = .ok (.return_, 1) := by decide +kernel
theorem dX2_isFull_0 : decode cX2_isFull 0 = .ok (.aload_n 0, 1) := by decide +kernel
theorem dX2_isFull_1 : decode cX2_isFull 1 = .ok (.getfield 27, 3) := by decide +kernel
theorem dX2_isFull_4 : decode cX2_isFull 4 = .ok (.bipush 8, 2) := by decide +kernel
theorem dX2_isFull_6 : decode cX2_isFull 6 = .ok (.if_icmp .lt 7, 3) := by decide +kernel
theorem dX2_isFull_9 : decode cX2_isFull 9 = .ok (.iconst 1, 1) := by decide +kernel
theorem dX2_isFull_10 : decode cX2_isFull 10 = .ok (.goto 4, 3) := by decide +kernel
theorem dX2_isFull_13 : decode cX2_isFull 13 = .ok (.iconst 0, 1) := by decide +kernel
theorem dX2_isFull_14 : decode cX2_isFull 14 = .ok (.ireturn, 1) := by decide +kernel
theorem dX2_add_0 : decode cX2_add 0 = .ok (.aload_n 0, 1) := by decide +kernel
theorem dX2_add_1 : decode cX2_add 1 = .ok (.getfield 9, 3) := by decide +kernel
theorem dX2_add_4 : decode cX2_add 4 = .ok (.aload_n 0, 1) := by decide +kernel
theorem dX2_add_5 : decode cX2_add 5 = .ok (.getfield 27, 3) := by decide +kernel
theorem dX2_add_8 : decode cX2_add 8 = .ok (.iload_n 1, 1) := by decide +kernel
theorem dX2_add_9 : decode cX2_add 9 = .ok (.castore, 1) := by decide +kernel
theorem dX2_add_10 : decode cX2_add 10 = .ok (.aload_n 0, 1) := by decide +kernel
theorem dX2_add_11 : decode cX2_add 11 = .ok (.getfield 15, 3) := by decide +kernel
theorem dX2_add_14 : decode cX2_add 14 = .ok (.aload_n 0, 1) := by decide +kernel
theorem dX2_add_15 : decode cX2_add 15 = .ok (.getfield 27, 3) := by decide +kernel
theorem dX2_add_18 : decode cX2_add 18 = .ok (.iload_n 2, 1) := by decide +kernel
theorem dX2_add_19 : decode cX2_add 19 = .ok (.iastore, 1) := by decide +kernel
theorem dX2_add_20 : decode cX2_add 20 = .ok (.aload_n 0, 1) := by decide +kernel
theorem dX2_add_21 : decode cX2_add 21 = .ok (.dup, 1) := by decide +kernel
theorem dX2_add_22 : decode cX2_add 22 = .ok (.getfield 27, 3) := by decide +kernel
theorem dX2_add_25 : decode cX2_add 25 = .ok (.iconst 1, 1) := by decide +kernel
theorem dX2_add_26 : decode cX2_add 26 = .ok (.iadd, 1) := by decide +kernel
theorem dX2_add_27 : decode cX2_add 27 = .ok (.putfield 27, 3) := by decide +kernel
theorem dX2_add_30 : decode cX2_add 30 = .ok (.aload_n 0, 1) := by decide +kernel
theorem dX2_add_31 : decode cX2_add 31 = .ok (.getfield 27, 3) := by decide +kernel
theorem dX2_add_34 : decode cX2_add 34 = .ok (.iconst 1, 1) := by decide +kernel
theorem dX2_add_35 : decode cX2_add 35 = .ok (.isub, 1) := by decide +kernel
theorem dX2_add_36 : decode cX2_add 36 = .ok (.ireturn, 1) := by decide +kernel
theorem dX2_copyFrom_0 : decode cX2_copyFrom 0 = .ok (.iconst 0, 1) := by decide +kernel
theorem dX2_copyFrom_1 : decode cX2_copyFrom 1 = .ok (.istore_n 2, 1) := by decide +kernel
theorem dX2_copyFrom_2 : decode cX2_copyFrom 2 = .ok (.iload_n 2, 1) := by decide +kernel
theorem dX2_copyFrom_3 : decode cX2_copyFrom 3 = .ok (.aload_n 1, 1) := by decide +kernel
theorem dX2_copyFrom_4 : decode cX2_copyFrom 4 = .ok (.getfield 27, 3) := by decide +kernel
theorem dX2_copyFrom_7 : decode cX2_copyFrom 7 = .ok (.if_icmp .ge 45, 3) := by decide +kernel
theorem dX2_copyFrom_10 : decode cX2_copyFrom 10 = .ok (.aload_n 0, 1) := by decide +kernel
theorem dX2_copyFrom_11 : decode cX2_copyFrom 11 = .ok (.getfield 9, 3) := by decide +kernel
theorem dX2_copyFrom_14 : decode cX2_copyFrom 14 = .ok (.iload_n 2, 1) := by decide +kernel
theorem dX2_copyFrom_15 : decode cX2_copyFrom 15 = .ok (.aload_n 1, 1) := by decide +kernel
theorem dX2_copyFrom_16 : decode cX2_copyFrom 16 = .ok (.getfield 9, 3) := by decide +kernel
theorem dX2_copyFrom_19 : decode cX2_copyFrom 19 = .ok (.iload_n 2, 1) := by decide +kernel
theorem dX2_copyFrom_20 : decode cX2_copyFrom 20 = .ok (.caload, 1) := by decide +kernel
theorem dX2_copyFrom_21 : decode cX2_copyFrom 21 = .ok (.castore, 1) := by decide +kernel
theorem dX2_copyFrom_22 : decode cX2_copyFrom 22 = .ok (.aload_n 0, 1) := by decide +kernel
theorem dX2_copyFrom_23 : decode cX2_copyFrom 23 = .ok (.getfield 15, 3) := by decide +kernel
theorem dX2_copyFrom_26 : decode cX2_copyFrom 26 = .ok (.iload_n 2, 1) := by decide +kernel
theorem dX2_copyFrom_27 : decode cX2_copyFrom 27 = .ok (.aload_n 1, 1) := by decide +kernel
theorem dX2_copyFrom_28 : decode cX2_copyFrom 28 = .ok (.getfield 15, 3) := by decide +kernel
theorem dX2_copyFrom_31 : decode cX2_copyFrom 31 = .ok (.iload_n 2, 1) := by decide +kernel
theorem dX2_copyFrom_32 : decode cX2_copyFrom 32 = .ok (.iaload, 1) := by decide +kernel
theorem dX2_copyFrom_33 : decode cX2_copyFrom 33 = .ok (.iastore, 1) := by decide +kernel
theorem dX2_copyFrom_34 : decode cX2_copyFrom 34 = .ok (.aload_n 0, 1) := by decide +kernel
theorem dX2_copyFrom_35 : decode cX2_copyFrom 35 = .ok (.getfield 19, 3) := by decide +kernel
theorem dX2_copyFrom_38 : decode cX2_copyFrom 38 = .ok (.iload_n 2, 1) := by decide +kernel
theorem dX2_copyFrom_39 : decode cX2_copyFrom 39 = .ok (.aload_n 1, 1) := by decide +kernel
theorem dX2_copyFrom_40 : decode cX2_copyFrom 40 = .ok (.getfield 19, 3) := by decide +kernel
theorem dX2_copyFrom_43 : decode cX2_copyFrom 43 = .ok (.iload_n 2, 1) := by decide +kernel
theorem dX2_copyFrom_44 : decode cX2_copyFrom 44 = .ok (.baload, 1) := by decide +kernel
theorem dX2_copyFrom_45 : decode cX2_copyFrom 45 = .ok (.bastore, 1) := by decide +kernel
theorem dX2_copyFrom_46 : decode cX2_copyFrom 46 = .ok (.iinc 2 1, 3) := by decide +kernel
theorem dX2_copyFrom_49 : decode cX2_copyFrom 49 = .ok (.goto (-47), 3) := by decide +kernel
theorem dX2_copyFrom_52 : decode cX2_copyFrom 52 = .ok (.aload_n 0, 1) := by decide +kernel
theorem dX2_copyFrom_53 : decode cX2_copyFrom 53 = .ok (.aload_n 1, 1) := by decide +kernel
theorem dX2_copyFrom_54 : decode cX2_copyFrom 54 = .ok (.getfield 27, 3) := by decide +kernel
theorem dX2_copyFrom_57 : decode cX2_copyFrom 57 = .ok (.putfield 27, 3) := by decide +kernel
theorem dX2_copyFrom_60 : decode cX2_copyFrom 60 = .ok (.aload_n 0, 1) := by decide +kernel
theorem dX2_copyFrom_61 : decode cX2_copyFrom 61 = .ok (.aload_n 1, 1) := by decide +kernel
theorem dX2_copyFrom_62 : decode cX2_copyFrom 62 = .ok (.getfield 23, 3) := by decide +kernel
theorem dX2_copyFrom_65 : decode cX2_copyFrom 65 = .ok (.putfield 23, 3) := by decide +kernel
theorem dX2_copyFrom_68 : decode cX2_copyFrom 68 = .ok (.return_, 1) := by decide +kernel
theorem dX2_turn_0 : decode cX2_turn 0 = .ok (.iload_n 1, 1) := by decide +kernel
theorem dX2_turn_1 : decode cX2_turn 1 = .ok (.ifCond .lt 18, 3) := by decide +kernel
theorem dX2_turn_4 : decode cX2_turn 4 = .ok (.iload_n 1, 1) := by decide +kernel
theorem dX2_turn_5 : decode cX2_turn 5 = .ok (.aload_n 0, 1) := by decide +kernel
theorem dX2_turn_6 : decode cX2_turn 6 = .ok (.getfield 27, 3) := by decide +kernel
theorem dX2_turn_9 : decode cX2_turn 9 = .ok (.if_icmp .ge 10, 3) := by decide +kernel
theorem dX2_turn_12 : decode cX2_turn 12 = .ok (.aload_n 0, 1) := by decide +kernel
theorem dX2_turn_13 : decode cX2_turn 13 = .ok (.getfield 19, 3) := by decide +kernel
theorem dX2_turn_16 : decode cX2_turn 16 = .ok (.iload_n 1, 1) := by decide +kernel
theorem dX2_turn_17 : decode cX2_turn 17 = .ok (.iload_n 2, 1) := by decide +kernel
theorem dX2_turn_18 : decode cX2_turn 18 = .ok (.bastore, 1) := by decide +kernel
theorem dX2_turn_19 : decode cX2_turn 19 = .ok (.return_, 1) := by decide +kernel
theorem dX2_darken_0 : decode cX2_darken 0 = .ok (.iconst 0, 1) := by decide +kernel
theorem dX2_darken_1 : decode cX2_darken 1 = .ok (.istore_n 1, 1) := by decide +kernel
theorem dX2_darken_2 : decode cX2_darken 2 = .ok (.iload_n 1, 1) := by decide +kernel
theorem dX2_darken_3 : decode cX2_darken 3 = .ok (.aload_n 0, 1) := by decide +kernel
theorem dX2_darken_4 : decode cX2_darken 4 = .ok (.getfield 27, 3) := by decide +kernel
theorem dX2_darken_7 : decode cX2_darken 7 = .ok (.if_icmp .ge 27, 3) := by decide +kernel
theorem dX2_darken_10 : decode cX2_darken 10 = .ok (.aload_n 0, 1) := by decide +kernel
theorem dX2_darken_11 : decode cX2_darken 11 = .ok (.getfield 9, 3) := by decide +kernel
theorem dX2_darken_14 : decode cX2_darken 14 = .ok (.iload_n 1, 1) := by decide +kernel
theorem dX2_darken_15 : decode cX2_darken 15 = .ok (.caload, 1) := by decide +kernel
theorem dX2_darken_16 : decode cX2_darken 16 = .ok (.bipush 108, 2) := by decide +kernel
theorem dX2_darken_18 : decode cX2_darken 18 = .ok (.if_icmp .ne 10, 3) := by decide +kernel
theorem dX2_darken_21 : decode cX2_darken 21 = .ok (.aload_n 0, 1) := by decide +kernel
theorem dX2_darken_22 : decode cX2_darken 22 = .ok (.getfield 19, 3) := by decide +kernel
theorem dX2_darken_25 : decode cX2_darken 25 = .ok (.iload_n 1, 1) := by decide +kernel
theorem dX2_darken_26 : decode cX2_darken 26 = .ok (.iconst 0, 1) := by decide +kernel
theorem dX2_darken_27 : decode cX2_darken 27 = .ok (.bastore, 1) := by decide +kernel
theorem dX2_darken_28 : decode cX2_darken 28 = .ok (.iinc 1 1, 3) := by decide +kernel
theorem dX2_darken_31 : decode cX2_darken 31 = .ok (.goto (-29), 3) := by decide +kernel
theorem dX2_darken_34 : decode cX2_darken 34 = .ok (.return_, 1) := by decide +kernel
theorem dX2_powerOf_0 : decode cX2_powerOf 0 = .ok (.iload_n 0, 1) := by decide +kernel
theorem dX2_powerOf_1 : decode cX2_powerOf 1 = .ok (.bipush 115, 2) := by decide +kernel
theorem dX2_powerOf_3 : decode cX2_powerOf 3 = .ok (.if_icmp .ne 5, 3) := by decide +kernel
theorem dX2_powerOf_6 : decode cX2_powerOf 6 = .ok (.iconst 3, 1) := by decide +kernel
theorem dX2_powerOf_7 : decode cX2_powerOf 7 = .ok (.ireturn, 1) := by decide +kernel
theorem dX2_powerOf_8 : decode cX2_powerOf 8 = .ok (.iload_n 0, 1) := by decide +kernel
theorem dX2_powerOf_9 : decode cX2_powerOf 9 = .ok (.bipush 101, 2) := by decide +kernel
theorem dX2_powerOf_11 : decode cX2_powerOf 11 = .ok (.if_icmp .ne 7, 3) := by decide +kernel
theorem dX2_powerOf_14 : decode cX2_powerOf 14 = .ok (.iconst 5, 1) := by decide +kernel
theorem dX2_powerOf_15 : decode cX2_powerOf 15 = .ok (.goto 4, 3) := by decide +kernel
theorem dX2_powerOf_18 : decode cX2_powerOf 18 = .ok (.iconst 2, 1) := by decide +kernel
theorem dX2_powerOf_19 : decode cX2_powerOf 19 = .ok (.ireturn, 1) := by decide +kernel
theorem dX3_init_0 : decode cX3_init 0 = .ok (.aload_n 0, 1) := by decide +kernel
theorem dX3_init_1 : decode cX3_init 1 = .ok (.invokespecial 1, 3) := by decide +kernel
theorem dX3_init_4 : decode cX3_init 4 = .ok (.aload_n 0, 1) := by decide +kernel
theorem dX3_init_5 : decode cX3_init 5 = .ok (.iload_n 1, 1) := by decide +kernel
theorem dX3_init_6 : decode cX3_init 6 = .ok (.ifCond .ge 7, 3) := by decide +kernel
theorem dX3_init_9 : decode cX3_init 9 = .ok (.iconst 0, 1) := by decide +kernel
theorem dX3_init_10 : decode cX3_init 10 = .ok (.goto 4, 3) := by decide +kernel
theorem dX3_init_13 : decode cX3_init 13 = .ok (.iload_n 1, 1) := by decide +kernel
theorem dX3_init_14 : decode cX3_init 14 = .ok (.newarray .char, 2) := by decide +kernel
theorem dX3_init_16 : decode cX3_init 16 = .ok (.putfield 7, 3) := by decide +kernel
theorem dX3_init_19 : decode cX3_init 19 = .ok (.return_, 1) := by decide +kernel
theorem dX3_add_0 : decode cX3_add 0 = .ok (.aload_n 0, 1) := by decide +kernel
theorem dX3_add_1 : decode cX3_add 1 = .ok (.getfield 13, 3) := by decide +kernel
theorem dX3_add_4 : decode cX3_add 4 = .ok (.aload_n 0, 1) := by decide +kernel
theorem dX3_add_5 : decode cX3_add 5 = .ok (.getfield 7, 3) := by decide +kernel
theorem dX3_add_8 : decode cX3_add 8 = .ok (.arraylength, 1) := by decide +kernel
theorem dX3_add_9 : decode cX3_add 9 = .ok (.if_icmp .ge 23, 3) := by decide +kernel
theorem dX3_add_12 : decode cX3_add 12 = .ok (.aload_n 0, 1) := by decide +kernel
theorem dX3_add_13 : decode cX3_add 13 = .ok (.getfield 7, 3) := by decide +kernel
theorem dX3_add_16 : decode cX3_add 16 = .ok (.aload_n 0, 1) := by decide +kernel
theorem dX3_add_17 : decode cX3_add 17 = .ok (.getfield 13, 3) := by decide +kernel
theorem dX3_add_20 : decode cX3_add 20 = .ok (.iload_n 1, 1) := by decide +kernel
theorem dX3_add_21 : decode cX3_add 21 = .ok (.castore, 1) := by decide +kernel
theorem dX3_add_22 : decode cX3_add 22 = .ok (.aload_n 0, 1) := by decide +kernel
theorem dX3_add_23 : decode cX3_add 23 = .ok (.dup, 1) := by decide +kernel
theorem dX3_add_24 : decode cX3_add 24 = .ok (.getfield 13, 3) := by decide +kernel
theorem dX3_add_27 : decode cX3_add 27 = .ok (.iconst 1, 1) := by decide +kernel
theorem dX3_add_28 : decode cX3_add 28 = .ok (.iadd, 1) := by decide +kernel
theorem dX3_add_29 : decode cX3_add 29 = .ok (.putfield 13, 3) := by decide +kernel
theorem dX3_add_32 : decode cX3_add 32 = .ok (.return_, 1) := by decide +kernel
theorem dX4_init_0 : decode cX4_init 0 = .ok (.aload_n 0, 1) := by decide +kernel
theorem dX4_init_1 : decode cX4_init 1 = .ok (.invokespecial 3, 3) := by decide +kernel
theorem dX4_init_4 : decode cX4_init 4 = .ok (.aload_n 0, 1) := by decide +kernel
theorem dX4_init_5 : decode cX4_init 5 = .ok (.bipush 8, 2) := by decide +kernel
theorem dX4_init_7 : decode cX4_init 7 = .ok (.newarray .int, 2) := by decide +kernel
theorem dX4_init_9 : decode cX4_init 9 = .ok (.putfield 9, 3) := by decide +kernel
theorem dX4_init_12 : decode cX4_init 12 = .ok (.aload_n 0, 1) := by decide +kernel
theorem dX4_init_13 : decode cX4_init 13 = .ok (.bipush 8, 2) := by decide +kernel
theorem dX4_init_15 : decode cX4_init 15 = .ok (.newarray .int, 2) := by decide +kernel
theorem dX4_init_17 : decode cX4_init 17 = .ok (.putfield 15, 3) := by decide +kernel
theorem dX4_init_20 : decode cX4_init 20 = .ok (.aload_n 0, 1) := by decide +kernel
theorem dX4_init_21 : decode cX4_init 21 = .ok (.bipush 8, 2) := by decide +kernel
theorem dX4_init_23 : decode cX4_init 23 = .ok (.newarray .boolean, 2) := by decide +kernel
theorem dX4_init_25 : decode cX4_init 25 = .ok (.putfield 18, 3) := by decide +kernel
theorem dX4_init_28 : decode cX4_init 28 = .ok (.return_, 1) := by decide +kernel
theorem dX4_isFull_0 : decode cX4_isFull 0 = .ok (.aload_n 0, 1) := by decide +kernel
theorem dX4_isFull_1 : decode cX4_isFull 1 = .ok (.getfield 22, 3) := by decide +kernel
theorem dX4_isFull_4 : decode cX4_isFull 4 = .ok (.bipush 8, 2) := by decide +kernel
theorem dX4_isFull_6 : decode cX4_isFull 6 = .ok (.if_icmp .lt 7, 3) := by decide +kernel
theorem dX4_isFull_9 : decode cX4_isFull 9 = .ok (.iconst 1, 1) := by decide +kernel
theorem dX4_isFull_10 : decode cX4_isFull 10 = .ok (.goto 4, 3) := by decide +kernel
theorem dX4_isFull_13 : decode cX4_isFull 13 = .ok (.iconst 0, 1) := by decide +kernel
theorem dX4_isFull_14 : decode cX4_isFull 14 = .ok (.ireturn, 1) := by decide +kernel
theorem dX4_add_0 : decode cX4_add 0 = .ok (.aload_n 0, 1) := by decide +kernel
theorem dX4_add_1 : decode cX4_add 1 = .ok (.getfield 9, 3) := by decide +kernel
theorem dX4_add_4 : decode cX4_add 4 = .ok (.aload_n 0, 1) := by decide +kernel
theorem dX4_add_5 : decode cX4_add 5 = .ok (.getfield 22, 3) := by decide +kernel
theorem dX4_add_8 : decode cX4_add 8 = .ok (.iload_n 1, 1) := by decide +kernel
theorem dX4_add_9 : decode cX4_add 9 = .ok (.iastore, 1) := by decide +kernel
theorem dX4_add_10 : decode cX4_add 10 = .ok (.aload_n 0, 1) := by decide +kernel
theorem dX4_add_11 : decode cX4_add 11 = .ok (.getfield 15, 3) := by decide +kernel
theorem dX4_add_14 : decode cX4_add 14 = .ok (.aload_n 0, 1) := by decide +kernel
theorem dX4_add_15 : decode cX4_add 15 = .ok (.getfield 22, 3) := by decide +kernel
theorem dX4_add_18 : decode cX4_add 18 = .ok (.iload_n 2, 1) := by decide +kernel
theorem dX4_add_19 : decode cX4_add 19 = .ok (.iastore, 1) := by decide +kernel
theorem dX4_add_20 : decode cX4_add 20 = .ok (.aload_n 0, 1) := by decide +kernel
theorem dX4_add_21 : decode cX4_add 21 = .ok (.getfield 18, 3) := by decide +kernel
theorem dX4_add_24 : decode cX4_add 24 = .ok (.aload_n 0, 1) := by decide +kernel
theorem dX4_add_25 : decode cX4_add 25 = .ok (.getfield 22, 3) := by decide +kernel
theorem dX4_add_28 : decode cX4_add 28 = .ok (.iconst 1, 1) := by decide +kernel
theorem dX4_add_29 : decode cX4_add 29 = .ok (.bastore, 1) := by decide +kernel
theorem dX4_add_30 : decode cX4_add 30 = .ok (.aload_n 0, 1) := by decide +kernel
theorem dX4_add_31 : decode cX4_add 31 = .ok (.dup, 1) := by decide +kernel
theorem dX4_add_32 : decode cX4_add 32 = .ok (.getfield 22, 3) := by decide +kernel
theorem dX4_add_35 : decode cX4_add 35 = .ok (.iconst 1, 1) := by decide +kernel
theorem dX4_add_36 : decode cX4_add 36 = .ok (.iadd, 1) := by decide +kernel
theorem dX4_add_37 : decode cX4_add 37 = .ok (.putfield 22, 3) := by decide +kernel
theorem dX4_add_40 : decode cX4_add 40 = .ok (.aload_n 0, 1) := by decide +kernel
theorem dX4_add_41 : decode cX4_add 41 = .ok (.getfield 22, 3) := by decide +kernel
theorem dX4_add_44 : decode cX4_add 44 = .ok (.iconst 1, 1) := by decide +kernel
theorem dX4_add_45 : decode cX4_add 45 = .ok (.isub, 1) := by decide +kernel
theorem dX4_add_46 : decode cX4_add 46 = .ok (.ireturn, 1) := by decide +kernel
theorem dX4_copyFrom_0 : decode cX4_copyFrom 0 = .ok (.iconst 0, 1) := by decide +kernel
theorem dX4_copyFrom_1 : decode cX4_copyFrom 1 = .ok (.istore_n 2, 1) := by decide +kernel
theorem dX4_copyFrom_2 : decode cX4_copyFrom 2 = .ok (.iload_n 2, 1) := by decide +kernel
theorem dX4_copyFrom_3 : decode cX4_copyFrom 3 = .ok (.aload_n 1, 1) := by decide +kernel
theorem dX4_copyFrom_4 : decode cX4_copyFrom 4 = .ok (.getfield 22, 3) := by decide +kernel
theorem dX4_copyFrom_7 : decode cX4_copyFrom 7 = .ok (.if_icmp .ge 45, 3) := by decide +kernel
theorem dX4_copyFrom_10 : decode cX4_copyFrom 10 = .ok (.aload_n 0, 1) := by decide +kernel
theorem dX4_copyFrom_11 : decode cX4_copyFrom 11 = .ok (.getfield 9, 3) := by decide +kernel
theorem dX4_copyFrom_14 : decode cX4_copyFrom 14 = .ok (.iload_n 2, 1) := by decide +kernel
theorem dX4_copyFrom_15 : decode cX4_copyFrom 15 = .ok (.aload_n 1, 1) := by decide +kernel
theorem dX4_copyFrom_16 : decode cX4_copyFrom 16 = .ok (.getfield 9, 3) := by decide +kernel
theorem dX4_copyFrom_19 : decode cX4_copyFrom 19 = .ok (.iload_n 2, 1) := by decide +kernel
theorem dX4_copyFrom_20 : decode cX4_copyFrom 20 = .ok (.iaload, 1) := by decide +kernel
theorem dX4_copyFrom_21 : decode cX4_copyFrom 21 = .ok (.iastore, 1) := by decide +kernel
theorem dX4_copyFrom_22 : decode cX4_copyFrom 22 = .ok (.aload_n 0, 1) := by decide +kernel
theorem dX4_copyFrom_23 : decode cX4_copyFrom 23 = .ok (.getfield 15, 3) := by decide +kernel
theorem dX4_copyFrom_26 : decode cX4_copyFrom 26 = .ok (.iload_n 2, 1) := by decide +kernel
theorem dX4_copyFrom_27 : decode cX4_copyFrom 27 = .ok (.aload_n 1, 1) := by decide +kernel
theorem dX4_copyFrom_28 : decode cX4_copyFrom 28 = .ok (.getfield 15, 3) := by decide +kernel
theorem dX4_copyFrom_31 : decode cX4_copyFrom 31 = .ok (.iload_n 2, 1) := by decide +kernel
theorem dX4_copyFrom_32 : decode cX4_copyFrom 32 = .ok (.iaload, 1) := by decide +kernel
theorem dX4_copyFrom_33 : decode cX4_copyFrom 33 = .ok (.iastore, 1) := by decide +kernel
theorem dX4_copyFrom_34 : decode cX4_copyFrom 34 = .ok (.aload_n 0, 1) := by decide +kernel
theorem dX4_copyFrom_35 : decode cX4_copyFrom 35 = .ok (.getfield 18, 3) := by decide +kernel
theorem dX4_copyFrom_38 : decode cX4_copyFrom 38 = .ok (.iload_n 2, 1) := by decide +kernel
theorem dX4_copyFrom_39 : decode cX4_copyFrom 39 = .ok (.aload_n 1, 1) := by decide +kernel
theorem dX4_copyFrom_40 : decode cX4_copyFrom 40 = .ok (.getfield 18, 3) := by decide +kernel
theorem dX4_copyFrom_43 : decode cX4_copyFrom 43 = .ok (.iload_n 2, 1) := by decide +kernel
theorem dX4_copyFrom_44 : decode cX4_copyFrom 44 = .ok (.baload, 1) := by decide +kernel
theorem dX4_copyFrom_45 : decode cX4_copyFrom 45 = .ok (.bastore, 1) := by decide +kernel
theorem dX4_copyFrom_46 : decode cX4_copyFrom 46 = .ok (.iinc 2 1, 3) := by decide +kernel
theorem dX4_copyFrom_49 : decode cX4_copyFrom 49 = .ok (.goto (-47), 3) := by decide +kernel
theorem dX4_copyFrom_52 : decode cX4_copyFrom 52 = .ok (.aload_n 0, 1) := by decide +kernel
theorem dX4_copyFrom_53 : decode cX4_copyFrom 53 = .ok (.aload_n 1, 1) := by decide +kernel
theorem dX4_copyFrom_54 : decode cX4_copyFrom 54 = .ok (.getfield 22, 3) := by decide +kernel
theorem dX4_copyFrom_57 : decode cX4_copyFrom 57 = .ok (.putfield 22, 3) := by decide +kernel
theorem dX4_copyFrom_60 : decode cX4_copyFrom 60 = .ok (.return_, 1) := by decide +kernel
theorem dX4_turn_0 : decode cX4_turn 0 = .ok (.iload_n 1, 1) := by decide +kernel
theorem dX4_turn_1 : decode cX4_turn 1 = .ok (.ifCond .lt 18, 3) := by decide +kernel
theorem dX4_turn_4 : decode cX4_turn 4 = .ok (.iload_n 1, 1) := by decide +kernel
theorem dX4_turn_5 : decode cX4_turn 5 = .ok (.aload_n 0, 1) := by decide +kernel
theorem dX4_turn_6 : decode cX4_turn 6 = .ok (.getfield 22, 3) := by decide +kernel
theorem dX4_turn_9 : decode cX4_turn 9 = .ok (.if_icmp .ge 10, 3) := by decide +kernel
theorem dX4_turn_12 : decode cX4_turn 12 = .ok (.aload_n 0, 1) := by decide +kernel
theorem dX4_turn_13 : decode cX4_turn 13 = .ok (.getfield 18, 3) := by decide +kernel
theorem dX4_turn_16 : decode cX4_turn 16 = .ok (.iload_n 1, 1) := by decide +kernel
theorem dX4_turn_17 : decode cX4_turn 17 = .ok (.iload_n 2, 1) := by decide +kernel
theorem dX4_turn_18 : decode cX4_turn 18 = .ok (.bastore, 1) := by decide +kernel
theorem dX4_turn_19 : decode cX4_turn 19 = .ok (.return_, 1) := by decide +kernel
theorem dX4_joinsOpen_0 : decode cX4_joinsOpen 0 = .ok (.iconst 0, 1) := by decide +kernel
theorem dX4_joinsOpen_1 : decode cX4_joinsOpen 1 = .ok (.istore_n 3, 1) := by decide +kernel
theorem dX4_joinsOpen_2 : decode cX4_joinsOpen 2 = .ok (.iload_n 3, 1) := by decide +kernel
theorem dX4_joinsOpen_3 : decode cX4_joinsOpen 3 = .ok (.aload_n 0, 1) := by decide +kernel
theorem dX4_joinsOpen_4 : decode cX4_joinsOpen 4 = .ok (.getfield 22, 3) := by decide +kernel
theorem dX4_joinsOpen_7 : decode cX4_joinsOpen 7 = .ok (.if_icmp .ge 84, 3) := by decide +kernel
theorem dX4_joinsOpen_10 : decode cX4_joinsOpen 10 = .ok (.aload_n 0, 1) := by decide +kernel
theorem dX4_joinsOpen_11 : decode cX4_joinsOpen 11 = .ok (.getfield 9, 3) := by decide +kernel
theorem dX4_joinsOpen_14 : decode cX4_joinsOpen 14 = .ok (.iload_n 3, 1) := by decide +kernel
theorem dX4_joinsOpen_15 : decode cX4_joinsOpen 15 = .ok (.iaload, 1) := by decide +kernel
theorem dX4_joinsOpen_16 : decode cX4_joinsOpen 16 = .ok (.iload_n 1, 1) := by decide +kernel
theorem dX4_joinsOpen_17 : decode cX4_joinsOpen 17 = .ok (.if_icmp .ne 17, 3) := by decide +kernel
theorem dX4_joinsOpen_20 : decode cX4_joinsOpen 20 = .ok (.aload_n 0, 1) := by decide +kernel
theorem dX4_joinsOpen_21 : decode cX4_joinsOpen 21 = .ok (.getfield 15, 3) := by decide +kernel
theorem dX4_joinsOpen_24 : decode cX4_joinsOpen 24 = .ok (.iload_n 3, 1) := by decide +kernel
theorem dX4_joinsOpen_25 : decode cX4_joinsOpen 25 = .ok (.iaload, 1) := by decide +kernel
theorem dX4_joinsOpen_26 : decode cX4_joinsOpen 26 = .ok (.iload_n 2, 1) := by decide +kernel
theorem dX4_joinsOpen_27 : decode cX4_joinsOpen 27 = .ok (.if_icmp .ne 7, 3) := by decide +kernel
theorem dX4_joinsOpen_30 : decode cX4_joinsOpen 30 = .ok (.iconst 1, 1) := by decide +kernel
theorem dX4_joinsOpen_31 : decode cX4_joinsOpen 31 = .ok (.goto 4, 3) := by decide +kernel
theorem dX4_joinsOpen_34 : decode cX4_joinsOpen 34 = .ok (.iconst 0, 1) := by decide +kernel
theorem dX4_joinsOpen_35 : decode cX4_joinsOpen 35 = .ok (.istore 4, 2) := by decide +kernel
theorem dX4_joinsOpen_37 : decode cX4_joinsOpen 37 = .ok (.aload_n 0, 1) := by decide +kernel
theorem dX4_joinsOpen_38 : decode cX4_joinsOpen 38 = .ok (.getfield 9, 3) := by decide +kernel
theorem dX4_joinsOpen_41 : decode cX4_joinsOpen 41 = .ok (.iload_n 3, 1) := by decide +kernel
theorem dX4_joinsOpen_42 : decode cX4_joinsOpen 42 = .ok (.iaload, 1) := by decide +kernel
theorem dX4_joinsOpen_43 : decode cX4_joinsOpen 43 = .ok (.iload_n 2, 1) := by decide +kernel
theorem dX4_joinsOpen_44 : decode cX4_joinsOpen 44 = .ok (.if_icmp .ne 17, 3) := by decide +kernel
theorem dX4_joinsOpen_47 : decode cX4_joinsOpen 47 = .ok (.aload_n 0, 1) := by decide +kernel
theorem dX4_joinsOpen_48 : decode cX4_joinsOpen 48 = .ok (.getfield 15, 3) := by decide +kernel
theorem dX4_joinsOpen_51 : decode cX4_joinsOpen 51 = .ok (.iload_n 3, 1) := by decide +kernel
theorem dX4_joinsOpen_52 : decode cX4_joinsOpen 52 = .ok (.iaload, 1) := by decide +kernel
theorem dX4_joinsOpen_53 : decode cX4_joinsOpen 53 = .ok (.iload_n 1, 1) := by decide +kernel
theorem dX4_joinsOpen_54 : decode cX4_joinsOpen 54 = .ok (.if_icmp .ne 7, 3) := by decide +kernel
theorem dX4_joinsOpen_57 : decode cX4_joinsOpen 57 = .ok (.iconst 1, 1) := by decide +kernel
theorem dX4_joinsOpen_58 : decode cX4_joinsOpen 58 = .ok (.goto 4, 3) := by decide +kernel
theorem dX4_joinsOpen_61 : decode cX4_joinsOpen 61 = .ok (.iconst 0, 1) := by decide +kernel
theorem dX4_joinsOpen_62 : decode cX4_joinsOpen 62 = .ok (.istore 5, 2) := by decide +kernel
theorem dX4_joinsOpen_64 : decode cX4_joinsOpen 64 = .ok (.aload_n 0, 1) := by decide +kernel
theorem dX4_joinsOpen_65 : decode cX4_joinsOpen 65 = .ok (.getfield 18, 3) := by decide +kernel
theorem dX4_joinsOpen_68 : decode cX4_joinsOpen 68 = .ok (.iload_n 3, 1) := by decide +kernel
theorem dX4_joinsOpen_69 : decode cX4_joinsOpen 69 = .ok (.baload, 1) := by decide +kernel
theorem dX4_joinsOpen_70 : decode cX4_joinsOpen 70 = .ok (.ifCond .eq 15, 3) := by decide +kernel
theorem dX4_joinsOpen_73 : decode cX4_joinsOpen 73 = .ok (.iload 4, 2) := by decide +kernel
theorem dX4_joinsOpen_75 : decode cX4_joinsOpen 75 = .ok (.ifCond .ne 8, 3) := by decide +kernel
theorem dX4_joinsOpen_78 : decode cX4_joinsOpen 78 = .ok (.iload 5, 2) := by decide +kernel
theorem dX4_joinsOpen_80 : decode cX4_joinsOpen 80 = .ok (.ifCond .eq 5, 3) := by decide +kernel
theorem dX4_joinsOpen_83 : decode cX4_joinsOpen 83 = .ok (.iconst 1, 1) := by decide +kernel
theorem dX4_joinsOpen_84 : decode cX4_joinsOpen 84 = .ok (.ireturn, 1) := by decide +kernel
theorem dX4_joinsOpen_85 : decode cX4_joinsOpen 85 = .ok (.iinc 3 1, 3) := by decide +kernel
theorem dX4_joinsOpen_88 : decode cX4_joinsOpen 88 = .ok (.goto (-86), 3) := by decide +kernel
theorem dX4_joinsOpen_91 : decode cX4_joinsOpen 91 = .ok (.iconst 0, 1) := by decide +kernel
theorem dX4_joinsOpen_92 : decode cX4_joinsOpen 92 = .ok (.ireturn, 1) := by decide +kernel
theorem dX5_init_0 : decode cX5_init 0 = .ok (.aload_n 0, 1) := by decide +kernel
theorem dX5_init_1 : decode cX5_init 1 = .ok (.invokespecial 3, 3) := by decide +kernel
theorem dX5_init_4 : decode cX5_init 4 = .ok (.aload_n 0, 1) := by decide +kernel
theorem dX5_init_5 : decode cX5_init 5 = .ok (.bipush 6, 2) := by decide +kernel
theorem dX5_init_7 : decode cX5_init 7 = .ok (.newarray .int, 2) := by decide +kernel
theorem dX5_init_9 : decode cX5_init 9 = .ok (.putfield 9, 3) := by decide +kernel
theorem dX5_init_12 : decode cX5_init 12 = .ok (.aload_n 0, 1) := by decide +kernel
theorem dX5_init_13 : decode cX5_init 13 = .ok (.bipush 6, 2) := by decide +kernel
theorem dX5_init_15 : decode cX5_init 15 = .ok (.newarray .int, 2) := by decide +kernel
theorem dX5_init_17 : decode cX5_init 17 = .ok (.putfield 15, 3) := by decide +kernel
theorem dX5_init_20 : decode cX5_init 20 = .ok (.aload_n 0, 1) := by decide +kernel
theorem dX5_init_21 : decode cX5_init 21 = .ok (.bipush 6, 2) := by decide +kernel
theorem dX5_init_23 : decode cX5_init 23 = .ok (.newarray .int, 2) := by decide +kernel
theorem dX5_init_25 : decode cX5_init 25 = .ok (.putfield 18, 3) := by decide +kernel
theorem dX5_init_28 : decode cX5_init 28 = .ok (.return_, 1) := by decide +kernel
theorem dX5_has_0 : decode cX5_has 0 = .ok (.iload_n 1, 1) := by decide +kernel
theorem dX5_has_1 : decode cX5_has 1 = .ok (.ifCond .lt 15, 3) := by decide +kernel
theorem dX5_has_4 : decode cX5_has 4 = .ok (.iload_n 1, 1) := by decide +kernel
theorem dX5_has_5 : decode cX5_has 5 = .ok (.aload_n 0, 1) := by decide +kernel
theorem dX5_has_6 : decode cX5_has 6 = .ok (.getfield 21, 3) := by decide +kernel
theorem dX5_has_9 : decode cX5_has 9 = .ok (.if_icmp .ge 7, 3) := by decide +kernel
theorem dX5_has_12 : decode cX5_has 12 = .ok (.iconst 1, 1) := by decide +kernel
theorem dX5_has_13 : decode cX5_has 13 = .ok (.goto 4, 3) := by decide +kernel
theorem dX5_has_16 : decode cX5_has 16 = .ok (.iconst 0, 1) := by decide +kernel
theorem dX5_has_17 : decode cX5_has 17 = .ok (.ireturn, 1) := by decide +kernel
theorem dX5_isFull_0 : decode cX5_isFull 0 = .ok (.aload_n 0, 1) := by decide +kernel
theorem dX5_isFull_1 : decode cX5_isFull 1 = .ok (.getfield 21, 3) := by decide +kernel
theorem dX5_isFull_4 : decode cX5_isFull 4 = .ok (.bipush 6, 2) := by decide +kernel
theorem dX5_isFull_6 : decode cX5_isFull 6 = .ok (.if_icmp .lt 7, 3) := by decide +kernel
theorem dX5_isFull_9 : decode cX5_isFull 9 = .ok (.iconst 1, 1) := by decide +kernel
theorem dX5_isFull_10 : decode cX5_isFull 10 = .ok (.goto 4, 3) := by decide +kernel
theorem dX5_isFull_13 : decode cX5_isFull 13 = .ok (.iconst 0, 1) := by decide +kernel
theorem dX5_isFull_14 : decode cX5_isFull 14 = .ok (.ireturn, 1) := by decide +kernel
theorem dX5_add_0 : decode cX5_add 0 = .ok (.aload_n 0, 1) := by decide +kernel
theorem dX5_add_1 : decode cX5_add 1 = .ok (.getfield 9, 3) := by decide +kernel
theorem dX5_add_4 : decode cX5_add 4 = .ok (.aload_n 0, 1) := by decide +kernel
theorem dX5_add_5 : decode cX5_add 5 = .ok (.getfield 21, 3) := by decide +kernel
theorem dX5_add_8 : decode cX5_add 8 = .ok (.iload_n 1, 1) := by decide +kernel
theorem dX5_add_9 : decode cX5_add 9 = .ok (.iastore, 1) := by decide +kernel
theorem dX5_add_10 : decode cX5_add 10 = .ok (.aload_n 0, 1) := by decide +kernel
theorem dX5_add_11 : decode cX5_add 11 = .ok (.dup, 1) := by decide +kernel
theorem dX5_add_12 : decode cX5_add 12 = .ok (.getfield 21, 3) := by decide +kernel
theorem dX5_add_15 : decode cX5_add 15 = .ok (.iconst 1, 1) := by decide +kernel
theorem dX5_add_16 : decode cX5_add 16 = .ok (.iadd, 1) := by decide +kernel
theorem dX5_add_17 : decode cX5_add 17 = .ok (.putfield 21, 3) := by decide +kernel
theorem dX5_add_20 : decode cX5_add 20 = .ok (.aload_n 0, 1) := by decide +kernel
theorem dX5_add_21 : decode cX5_add 21 = .ok (.getfield 21, 3) := by decide +kernel
theorem dX5_add_24 : decode cX5_add 24 = .ok (.iconst 1, 1) := by decide +kernel
theorem dX5_add_25 : decode cX5_add 25 = .ok (.isub, 1) := by decide +kernel
theorem dX5_add_26 : decode cX5_add 26 = .ok (.ireturn, 1) := by decide +kernel
theorem dX5_copyFrom_0 : decode cX5_copyFrom 0 = .ok (.iconst 0, 1) := by decide +kernel
theorem dX5_copyFrom_1 : decode cX5_copyFrom 1 = .ok (.istore_n 2, 1) := by decide +kernel
theorem dX5_copyFrom_2 : decode cX5_copyFrom 2 = .ok (.iload_n 2, 1) := by decide +kernel
theorem dX5_copyFrom_3 : decode cX5_copyFrom 3 = .ok (.aload_n 1, 1) := by decide +kernel
theorem dX5_copyFrom_4 : decode cX5_copyFrom 4 = .ok (.getfield 21, 3) := by decide +kernel
theorem dX5_copyFrom_7 : decode cX5_copyFrom 7 = .ok (.if_icmp .ge 45, 3) := by decide +kernel
theorem dX5_copyFrom_10 : decode cX5_copyFrom 10 = .ok (.aload_n 0, 1) := by decide +kernel
theorem dX5_copyFrom_11 : decode cX5_copyFrom 11 = .ok (.getfield 9, 3) := by decide +kernel
theorem dX5_copyFrom_14 : decode cX5_copyFrom 14 = .ok (.iload_n 2, 1) := by decide +kernel
theorem dX5_copyFrom_15 : decode cX5_copyFrom 15 = .ok (.aload_n 1, 1) := by decide +kernel
theorem dX5_copyFrom_16 : decode cX5_copyFrom 16 = .ok (.getfield 9, 3) := by decide +kernel
theorem dX5_copyFrom_19 : decode cX5_copyFrom 19 = .ok (.iload_n 2, 1) := by decide +kernel
theorem dX5_copyFrom_20 : decode cX5_copyFrom 20 = .ok (.iaload, 1) := by decide +kernel
theorem dX5_copyFrom_21 : decode cX5_copyFrom 21 = .ok (.iastore, 1) := by decide +kernel
theorem dX5_copyFrom_22 : decode cX5_copyFrom 22 = .ok (.aload_n 0, 1) := by decide +kernel
theorem dX5_copyFrom_23 : decode cX5_copyFrom 23 = .ok (.getfield 15, 3) := by decide +kernel
theorem dX5_copyFrom_26 : decode cX5_copyFrom 26 = .ok (.iload_n 2, 1) := by decide +kernel
theorem dX5_copyFrom_27 : decode cX5_copyFrom 27 = .ok (.aload_n 1, 1) := by decide +kernel
theorem dX5_copyFrom_28 : decode cX5_copyFrom 28 = .ok (.getfield 15, 3) := by decide +kernel
theorem dX5_copyFrom_31 : decode cX5_copyFrom 31 = .ok (.iload_n 2, 1) := by decide +kernel
theorem dX5_copyFrom_32 : decode cX5_copyFrom 32 = .ok (.iaload, 1) := by decide +kernel
theorem dX5_copyFrom_33 : decode cX5_copyFrom 33 = .ok (.iastore, 1) := by decide +kernel
theorem dX5_copyFrom_34 : decode cX5_copyFrom 34 = .ok (.aload_n 0, 1) := by decide +kernel
theorem dX5_copyFrom_35 : decode cX5_copyFrom 35 = .ok (.getfield 18, 3) := by decide +kernel
theorem dX5_copyFrom_38 : decode cX5_copyFrom 38 = .ok (.iload_n 2, 1) := by decide +kernel
theorem dX5_copyFrom_39 : decode cX5_copyFrom 39 = .ok (.aload_n 1, 1) := by decide +kernel
theorem dX5_copyFrom_40 : decode cX5_copyFrom 40 = .ok (.getfield 18, 3) := by decide +kernel
theorem dX5_copyFrom_43 : decode cX5_copyFrom 43 = .ok (.iload_n 2, 1) := by decide +kernel
theorem dX5_copyFrom_44 : decode cX5_copyFrom 44 = .ok (.iaload, 1) := by decide +kernel
theorem dX5_copyFrom_45 : decode cX5_copyFrom 45 = .ok (.iastore, 1) := by decide +kernel
theorem dX5_copyFrom_46 : decode cX5_copyFrom 46 = .ok (.iinc 2 1, 3) := by decide +kernel
theorem dX5_copyFrom_49 : decode cX5_copyFrom 49 = .ok (.goto (-47), 3) := by decide +kernel
theorem dX5_copyFrom_52 : decode cX5_copyFrom 52 = .ok (.aload_n 0, 1) := by decide +kernel
theorem dX5_copyFrom_53 : decode cX5_copyFrom 53 = .ok (.aload_n 1, 1) := by decide +kernel
theorem dX5_copyFrom_54 : decode cX5_copyFrom 54 = .ok (.getfield 21, 3) := by decide +kernel
theorem dX5_copyFrom_57 : decode cX5_copyFrom 57 = .ok (.putfield 21, 3) := by decide +kernel
theorem dX5_copyFrom_60 : decode cX5_copyFrom 60 = .ok (.aload_n 0, 1) := by decide +kernel
theorem dX5_copyFrom_61 : decode cX5_copyFrom 61 = .ok (.aload_n 1, 1) := by decide +kernel
theorem dX5_copyFrom_62 : decode cX5_copyFrom 62 = .ok (.getfield 25, 3) := by decide +kernel
theorem dX5_copyFrom_65 : decode cX5_copyFrom 65 = .ok (.putfield 25, 3) := by decide +kernel
theorem dX5_copyFrom_68 : decode cX5_copyFrom 68 = .ok (.return_, 1) := by decide +kernel
set_option maxRecDepth 20000 in
theorem ggX5_addOxygen_X5_has : GoodIn wsX5_addOxygen wsX5_has := goodIn_r _ [6, 7, 8, 9, 10, 11, 12] (by decide +kernel) (by decide +kernel)
set_option maxRecDepth 20000 in
theorem gX5_addOxygen_X5_has : GoodIn wsX5_addOxygen (wsV RX5 28 RX5 yX5_has wsX5_has) := goodIn_app (goodIn_of _ (by decide +kernel)) ggX5_addOxygen_X5_has
theorem dX5_addOxygen_0 : decode cX5_addOxygen 0 = .ok (.aload_n 0, 1) := by decide +kernel
theorem dX5_addOxygen_1 : decode cX5_addOxygen 1 = .ok (.iload_n 1, 1) := by decide +kernel
theorem dX5_addOxygen_2 : decode cX5_addOxygen 2 = .ok (.invokevirtual 28, 3) := by decide +kernel
theorem dX5_addOxygen_5 : decode cX5_addOxygen 5 = .ok (.ifCond .ne 5, 3) := by decide +kernel
theorem dX5_addOxygen_8 : decode cX5_addOxygen 8 = .ok (.iconst 0, 1) := by decide +kernel
theorem dX5_addOxygen_9 : decode cX5_addOxygen 9 = .ok (.ireturn, 1) := by decide +kernel
theorem dX5_addOxygen_10 : decode cX5_addOxygen 10 = .ok (.aload_n 0, 1) := by decide +kernel
theorem dX5_addOxygen_11 : decode cX5_addOxygen 11 = .ok (.getfield 9, 3) := by decide +kernel
theorem dX5_addOxygen_14 : decode cX5_addOxygen 14 = .ok (.iload_n 1, 1) := by decide +kernel
theorem dX5_addOxygen_15 : decode cX5_addOxygen 15 = .ok (.dup2, 1) := by decide +kernel
theorem dX5_addOxygen_16 : decode cX5_addOxygen 16 = .ok (.iaload, 1) := by decide +kernel
theorem dX5_addOxygen_17 : decode cX5_addOxygen 17 = .ok (.iload_n 2, 1) := by decide +kernel
theorem dX5_addOxygen_18 : decode cX5_addOxygen 18 = .ok (.iadd, 1) := by decide +kernel
theorem dX5_addOxygen_19 : decode cX5_addOxygen 19 = .ok (.iastore, 1) := by decide +kernel
theorem dX5_addOxygen_20 : decode cX5_addOxygen 20 = .ok (.iload_n 2, 1) := by decide +kernel
theorem dX5_addOxygen_21 : decode cX5_addOxygen 21 = .ok (.ireturn, 1) := by decide +kernel
set_option maxRecDepth 20000 in
theorem ggX5_takeCarbon_X5_has : GoodIn wsX5_takeCarbon wsX5_has := goodIn_r _ [10, 11, 12, 13, 14, 15, 16] (by decide +kernel) (by decide +kernel)
set_option maxRecDepth 20000 in
theorem gX5_takeCarbon_X5_has : GoodIn wsX5_takeCarbon (wsV RX5 28 RX5 yX5_has wsX5_has) := goodIn_app (goodIn_of _ (by decide +kernel)) ggX5_takeCarbon_X5_has
theorem dX5_takeCarbon_0 : decode cX5_takeCarbon 0 = .ok (.aload_n 0, 1) := by decide +kernel
theorem dX5_takeCarbon_1 : decode cX5_takeCarbon 1 = .ok (.iload_n 1, 1) := by decide +kernel
theorem dX5_takeCarbon_2 : decode cX5_takeCarbon 2 = .ok (.invokevirtual 28, 3) := by decide +kernel
theorem dX5_takeCarbon_5 : decode cX5_takeCarbon 5 = .ok (.ifCond .ne 5, 3) := by decide +kernel
theorem dX5_takeCarbon_8 : decode cX5_takeCarbon 8 = .ok (.iconst 0, 1) := by decide +kernel
theorem dX5_takeCarbon_9 : decode cX5_takeCarbon 9 = .ok (.ireturn, 1) := by decide +kernel
theorem dX5_takeCarbon_10 : decode cX5_takeCarbon 10 = .ok (.iload_n 2, 1) := by decide +kernel
theorem dX5_takeCarbon_11 : decode cX5_takeCarbon 11 = .ok (.aload_n 0, 1) := by decide +kernel
theorem dX5_takeCarbon_12 : decode cX5_takeCarbon 12 = .ok (.getfield 15, 3) := by decide +kernel
theorem dX5_takeCarbon_15 : decode cX5_takeCarbon 15 = .ok (.iload_n 1, 1) := by decide +kernel
theorem dX5_takeCarbon_16 : decode cX5_takeCarbon 16 = .ok (.iaload, 1) := by decide +kernel
theorem dX5_takeCarbon_17 : decode cX5_takeCarbon 17 = .ok (.invokestatic 32, 3) := by decide +kernel
theorem dX5_takeCarbon_20 : decode cX5_takeCarbon 20 = .ok (.istore_n 3, 1) := by decide +kernel
theorem dX5_takeCarbon_21 : decode cX5_takeCarbon 21 = .ok (.aload_n 0, 1) := by decide +kernel
theorem dX5_takeCarbon_22 : decode cX5_takeCarbon 22 = .ok (.getfield 15, 3) := by decide +kernel
theorem dX5_takeCarbon_25 : decode cX5_takeCarbon 25 = .ok (.iload_n 1, 1) := by decide +kernel
theorem dX5_takeCarbon_26 : decode cX5_takeCarbon 26 = .ok (.dup2, 1) := by decide +kernel
theorem dX5_takeCarbon_27 : decode cX5_takeCarbon 27 = .ok (.iaload, 1) := by decide +kernel
theorem dX5_takeCarbon_28 : decode cX5_takeCarbon 28 = .ok (.iload_n 3, 1) := by decide +kernel
theorem dX5_takeCarbon_29 : decode cX5_takeCarbon 29 = .ok (.isub, 1) := by decide +kernel
theorem dX5_takeCarbon_30 : decode cX5_takeCarbon 30 = .ok (.iastore, 1) := by decide +kernel
theorem dX5_takeCarbon_31 : decode cX5_takeCarbon 31 = .ok (.iload_n 3, 1) := by decide +kernel
theorem dX5_takeCarbon_32 : decode cX5_takeCarbon 32 = .ok (.ireturn, 1) := by decide +kernel
set_option maxRecDepth 20000 in
theorem ggX5_turnToCarbon_X5_has : GoodIn wsX5_turnToCarbon wsX5_has := goodIn_r _ [11, 12, 13, 14, 15, 16, 17] (by decide +kernel) (by decide +kernel)
set_option maxRecDepth 20000 in
theorem gX5_turnToCarbon_X5_has : GoodIn wsX5_turnToCarbon (wsV RX5 28 RX5 yX5_has wsX5_has) := goodIn_app (goodIn_of _ (by decide +kernel)) ggX5_turnToCarbon_X5_has
theorem dX5_turnToCarbon_0 : decode cX5_turnToCarbon 0 = .ok (.aload_n 0, 1) := by decide +kernel
theorem dX5_turnToCarbon_1 : decode cX5_turnToCarbon 1 = .ok (.iload_n 1, 1) := by decide +kernel
theorem dX5_turnToCarbon_2 : decode cX5_turnToCarbon 2 = .ok (.invokevirtual 28, 3) := by decide +kernel
theorem dX5_turnToCarbon_5 : decode cX5_turnToCarbon 5 = .ok (.ifCond .ne 5, 3) := by decide +kernel
theorem dX5_turnToCarbon_8 : decode cX5_turnToCarbon 8 = .ok (.iconst 0, 1) := by decide +kernel
theorem dX5_turnToCarbon_9 : decode cX5_turnToCarbon 9 = .ok (.ireturn, 1) := by decide +kernel
theorem dX5_turnToCarbon_10 : decode cX5_turnToCarbon 10 = .ok (.iload_n 2, 1) := by decide +kernel
theorem dX5_turnToCarbon_11 : decode cX5_turnToCarbon 11 = .ok (.aload_n 0, 1) := by decide +kernel
theorem dX5_turnToCarbon_12 : decode cX5_turnToCarbon 12 = .ok (.getfield 9, 3) := by decide +kernel
theorem dX5_turnToCarbon_15 : decode cX5_turnToCarbon 15 = .ok (.iload_n 1, 1) := by decide +kernel
theorem dX5_turnToCarbon_16 : decode cX5_turnToCarbon 16 = .ok (.iaload, 1) := by decide +kernel
theorem dX5_turnToCarbon_17 : decode cX5_turnToCarbon 17 = .ok (.invokestatic 32, 3) := by decide +kernel
theorem dX5_turnToCarbon_20 : decode cX5_turnToCarbon 20 = .ok (.istore_n 3, 1) := by decide +kernel
theorem dX5_turnToCarbon_21 : decode cX5_turnToCarbon 21 = .ok (.aload_n 0, 1) := by decide +kernel
theorem dX5_turnToCarbon_22 : decode cX5_turnToCarbon 22 = .ok (.getfield 9, 3) := by decide +kernel
theorem dX5_turnToCarbon_25 : decode cX5_turnToCarbon 25 = .ok (.iload_n 1, 1) := by decide +kernel
theorem dX5_turnToCarbon_26 : decode cX5_turnToCarbon 26 = .ok (.dup2, 1) := by decide +kernel
theorem dX5_turnToCarbon_27 : decode cX5_turnToCarbon 27 = .ok (.iaload, 1) := by decide +kernel
theorem dX5_turnToCarbon_28 : decode cX5_turnToCarbon 28 = .ok (.iload_n 3, 1) := by decide +kernel
theorem dX5_turnToCarbon_29 : decode cX5_turnToCarbon 29 = .ok (.isub, 1) := by decide +kernel
theorem dX5_turnToCarbon_30 : decode cX5_turnToCarbon 30 = .ok (.iastore, 1) := by decide +kernel
theorem dX5_turnToCarbon_31 : decode cX5_turnToCarbon 31 = .ok (.aload_n 0, 1) := by decide +kernel
theorem dX5_turnToCarbon_32 : decode cX5_turnToCarbon 32 = .ok (.getfield 15, 3) := by decide +kernel
theorem dX5_turnToCarbon_35 : decode cX5_turnToCarbon 35 = .ok (.iload_n 1, 1) := by decide +kernel
theorem dX5_turnToCarbon_36 : decode cX5_turnToCarbon 36 = .ok (.dup2, 1) := by decide +kernel
theorem dX5_turnToCarbon_37 : decode cX5_turnToCarbon 37 = .ok (.iaload, 1) := by decide +kernel
theorem dX5_turnToCarbon_38 : decode cX5_turnToCarbon 38 = .ok (.iload_n 3, 1) := by decide +kernel
theorem dX5_turnToCarbon_39 : decode cX5_turnToCarbon 39 = .ok (.iadd, 1) := by decide +kernel
theorem dX5_turnToCarbon_40 : decode cX5_turnToCarbon 40 = .ok (.iastore, 1) := by decide +kernel
theorem dX5_turnToCarbon_41 : decode cX5_turnToCarbon 41 = .ok (.iload_n 3, 1) := by decide +kernel
theorem dX5_turnToCarbon_42 : decode cX5_turnToCarbon 42 = .ok (.ireturn, 1) := by decide +kernel
theorem dX5_leakOut_0 : decode cX5_leakOut 0 = .ok (.iconst 0, 1) := by decide +kernel
theorem dX5_leakOut_1 : decode cX5_leakOut 1 = .ok (.istore_n 1, 1) := by decide +kernel
theorem dX5_leakOut_2 : decode cX5_leakOut 2 = .ok (.iload_n 1, 1) := by decide +kernel
theorem dX5_leakOut_3 : decode cX5_leakOut 3 = .ok (.aload_n 0, 1) := by decide +kernel
theorem dX5_leakOut_4 : decode cX5_leakOut 4 = .ok (.getfield 21, 3) := by decide +kernel
theorem dX5_leakOut_7 : decode cX5_leakOut 7 = .ok (.if_icmp .ge 45, 3) := by decide +kernel
theorem dX5_leakOut_10 : decode cX5_leakOut 10 = .ok (.aload_n 0, 1) := by decide +kernel
theorem dX5_leakOut_11 : decode cX5_leakOut 11 = .ok (.getfield 18, 3) := by decide +kernel
theorem dX5_leakOut_14 : decode cX5_leakOut 14 = .ok (.iload_n 1, 1) := by decide +kernel
theorem dX5_leakOut_15 : decode cX5_leakOut 15 = .ok (.iaload, 1) := by decide +kernel
theorem dX5_leakOut_16 : decode cX5_leakOut 16 = .ok (.aload_n 0, 1) := by decide +kernel
theorem dX5_leakOut_17 : decode cX5_leakOut 17 = .ok (.getfield 9, 3) := by decide +kernel
theorem dX5_leakOut_20 : decode cX5_leakOut 20 = .ok (.iload_n 1, 1) := by decide +kernel
theorem dX5_leakOut_21 : decode cX5_leakOut 21 = .ok (.iaload, 1) := by decide +kernel
theorem dX5_leakOut_22 : decode cX5_leakOut 22 = .ok (.invokestatic 32, 3) := by decide +kernel
theorem dX5_leakOut_25 : decode cX5_leakOut 25 = .ok (.istore_n 2, 1) := by decide +kernel
theorem dX5_leakOut_26 : decode cX5_leakOut 26 = .ok (.aload_n 0, 1) := by decide +kernel
theorem dX5_leakOut_27 : decode cX5_leakOut 27 = .ok (.getfield 9, 3) := by decide +kernel
theorem dX5_leakOut_30 : decode cX5_leakOut 30 = .ok (.iload_n 1, 1) := by decide +kernel
theorem dX5_leakOut_31 : decode cX5_leakOut 31 = .ok (.dup2, 1) := by decide +kernel
theorem dX5_leakOut_32 : decode cX5_leakOut 32 = .ok (.iaload, 1) := by decide +kernel
theorem dX5_leakOut_33 : decode cX5_leakOut 33 = .ok (.iload_n 2, 1) := by decide +kernel
theorem dX5_leakOut_34 : decode cX5_leakOut 34 = .ok (.isub, 1) := by decide +kernel
theorem dX5_leakOut_35 : decode cX5_leakOut 35 = .ok (.iastore, 1) := by decide +kernel
theorem dX5_leakOut_36 : decode cX5_leakOut 36 = .ok (.aload_n 0, 1) := by decide +kernel
theorem dX5_leakOut_37 : decode cX5_leakOut 37 = .ok (.dup, 1) := by decide +kernel
theorem dX5_leakOut_38 : decode cX5_leakOut 38 = .ok (.getfield 25, 3) := by decide +kernel
theorem dX5_leakOut_41 : decode cX5_leakOut 41 = .ok (.iload_n 2, 1) := by decide +kernel
theorem dX5_leakOut_42 : decode cX5_leakOut 42 = .ok (.iadd, 1) := by decide +kernel
theorem dX5_leakOut_43 : decode cX5_leakOut 43 = .ok (.putfield 25, 3) := by decide +kernel
theorem dX5_leakOut_46 : decode cX5_leakOut 46 = .ok (.iinc 1 1, 3) := by decide +kernel
theorem dX5_leakOut_49 : decode cX5_leakOut 49 = .ok (.goto (-47), 3) := by decide +kernel
theorem dX5_leakOut_52 : decode cX5_leakOut 52 = .ok (.return_, 1) := by decide +kernel
set_option maxRecDepth 20000 in
theorem ggX5_level_X5_has : GoodIn wsX5_level wsX5_has := goodIn_r _ [7, 8, 9, 10, 11, 12, 13] (by decide +kernel) (by decide +kernel)
set_option maxRecDepth 20000 in
theorem gX5_level_X5_has : GoodIn wsX5_level (wsV RX5 28 RX5 yX5_has wsX5_has) := goodIn_app (goodIn_of _ (by decide +kernel)) ggX5_level_X5_has
theorem dX5_level_0 : decode cX5_level 0 = .ok (.aload_n 0, 1) := by decide +kernel
theorem dX5_level_1 : decode cX5_level 1 = .ok (.iload_n 1, 1) := by decide +kernel
theorem dX5_level_2 : decode cX5_level 2 = .ok (.invokevirtual 28, 3) := by decide +kernel
theorem dX5_level_5 : decode cX5_level 5 = .ok (.ifCond .eq 11, 3) := by decide +kernel
theorem dX5_level_8 : decode cX5_level 8 = .ok (.aload_n 0, 1) := by decide +kernel
theorem dX5_level_9 : decode cX5_level 9 = .ok (.iload_n 2, 1) := by decide +kernel
theorem dX5_level_10 : decode cX5_level 10 = .ok (.invokevirtual 28, 3) := by decide +kernel
theorem dX5_level_13 : decode cX5_level 13 = .ok (.ifCond .ne 4, 3) := by decide +kernel
theorem dX5_level_16 : decode cX5_level 16 = .ok (.return_, 1) := by decide +kernel
theorem dX5_level_17 : decode cX5_level 17 = .ok (.aload_n 0, 1) := by decide +kernel
theorem dX5_level_18 : decode cX5_level 18 = .ok (.getfield 9, 3) := by decide +kernel
theorem dX5_level_21 : decode cX5_level 21 = .ok (.iload_n 1, 1) := by decide +kernel
theorem dX5_level_22 : decode cX5_level 22 = .ok (.iaload, 1) := by decide +kernel
theorem dX5_level_23 : decode cX5_level 23 = .ok (.aload_n 0, 1) := by decide +kernel
theorem dX5_level_24 : decode cX5_level 24 = .ok (.getfield 9, 3) := by decide +kernel
theorem dX5_level_27 : decode cX5_level 27 = .ok (.iload_n 2, 1) := by decide +kernel
theorem dX5_level_28 : decode cX5_level 28 = .ok (.iaload, 1) := by decide +kernel
theorem dX5_level_29 : decode cX5_level 29 = .ok (.isub, 1) := by decide +kernel
theorem dX5_level_30 : decode cX5_level 30 = .ok (.iconst 2, 1) := by decide +kernel
theorem dX5_level_31 : decode cX5_level 31 = .ok (.idiv, 1) := by decide +kernel
theorem dX5_level_32 : decode cX5_level 32 = .ok (.istore_n 3, 1) := by decide +kernel
theorem dX5_level_33 : decode cX5_level 33 = .ok (.aload_n 0, 1) := by decide +kernel
theorem dX5_level_34 : decode cX5_level 34 = .ok (.getfield 15, 3) := by decide +kernel
theorem dX5_level_37 : decode cX5_level 37 = .ok (.iload_n 1, 1) := by decide +kernel
theorem dX5_level_38 : decode cX5_level 38 = .ok (.iaload, 1) := by decide +kernel
theorem dX5_level_39 : decode cX5_level 39 = .ok (.aload_n 0, 1) := by decide +kernel
theorem dX5_level_40 : decode cX5_level 40 = .ok (.getfield 15, 3) := by decide +kernel
theorem dX5_level_43 : decode cX5_level 43 = .ok (.iload_n 2, 1) := by decide +kernel
theorem dX5_level_44 : decode cX5_level 44 = .ok (.iaload, 1) := by decide +kernel
theorem dX5_level_45 : decode cX5_level 45 = .ok (.isub, 1) := by decide +kernel
theorem dX5_level_46 : decode cX5_level 46 = .ok (.iconst 2, 1) := by decide +kernel
theorem dX5_level_47 : decode cX5_level 47 = .ok (.idiv, 1) := by decide +kernel
theorem dX5_level_48 : decode cX5_level 48 = .ok (.istore 4, 2) := by decide +kernel
theorem dX5_level_50 : decode cX5_level 50 = .ok (.aload_n 0, 1) := by decide +kernel
theorem dX5_level_51 : decode cX5_level 51 = .ok (.getfield 9, 3) := by decide +kernel
theorem dX5_level_54 : decode cX5_level 54 = .ok (.iload_n 1, 1) := by decide +kernel
theorem dX5_level_55 : decode cX5_level 55 = .ok (.dup2, 1) := by decide +kernel
theorem dX5_level_56 : decode cX5_level 56 = .ok (.iaload, 1) := by decide +kernel
theorem dX5_level_57 : decode cX5_level 57 = .ok (.iload_n 3, 1) := by decide +kernel
theorem dX5_level_58 : decode cX5_level 58 = .ok (.isub, 1) := by decide +kernel
theorem dX5_level_59 : decode cX5_level 59 = .ok (.iastore, 1) := by decide +kernel
theorem dX5_level_60 : decode cX5_level 60 = .ok (.aload_n 0, 1) := by decide +kernel
theorem dX5_level_61 : decode cX5_level 61 = .ok (.getfield 9, 3) := by decide +kernel
theorem dX5_level_64 : decode cX5_level 64 = .ok (.iload_n 2, 1) := by decide +kernel
theorem dX5_level_65 : decode cX5_level 65 = .ok (.dup2, 1) := by decide +kernel
theorem dX5_level_66 : decode cX5_level 66 = .ok (.iaload, 1) := by decide +kernel
theorem dX5_level_67 : decode cX5_level 67 = .ok (.iload_n 3, 1) := by decide +kernel
theorem dX5_level_68 : decode cX5_level 68 = .ok (.iadd, 1) := by decide +kernel
theorem dX5_level_69 : decode cX5_level 69 = .ok (.iastore, 1) := by decide +kernel
theorem dX5_level_70 : decode cX5_level 70 = .ok (.aload_n 0, 1) := by decide +kernel
theorem dX5_level_71 : decode cX5_level 71 = .ok (.getfield 15, 3) := by decide +kernel
theorem dX5_level_74 : decode cX5_level 74 = .ok (.iload_n 1, 1) := by decide +kernel
theorem dX5_level_75 : decode cX5_level 75 = .ok (.dup2, 1) := by decide +kernel
theorem dX5_level_76 : decode cX5_level 76 = .ok (.iaload, 1) := by decide +kernel
theorem dX5_level_77 : decode cX5_level 77 = .ok (.iload 4, 2) := by decide +kernel
theorem dX5_level_79 : decode cX5_level 79 = .ok (.isub, 1) := by decide +kernel
theorem dX5_level_80 : decode cX5_level 80 = .ok (.iastore, 1) := by decide +kernel
theorem dX5_level_81 : decode cX5_level 81 = .ok (.aload_n 0, 1) := by decide +kernel
theorem dX5_level_82 : decode cX5_level 82 = .ok (.getfield 15, 3) := by decide +kernel
theorem dX5_level_85 : decode cX5_level 85 = .ok (.iload_n 2, 1) := by decide +kernel
theorem dX5_level_86 : decode cX5_level 86 = .ok (.dup2, 1) := by decide +kernel
theorem dX5_level_87 : decode cX5_level 87 = .ok (.iaload, 1) := by decide +kernel
theorem dX5_level_88 : decode cX5_level 88 = .ok (.iload 4, 2) := by decide +kernel
theorem dX5_level_90 : decode cX5_level 90 = .ok (.iadd, 1) := by decide +kernel
theorem dX5_level_91 : decode cX5_level 91 = .ok (.iastore, 1) := by decide +kernel
theorem dX5_level_92 : decode cX5_level 92 = .ok (.return_, 1) := by decide +kernel
set_option maxRecDepth 20000 in
theorem ggX5_isDangerous_X5_has : GoodIn wsX5_isDangerous wsX5_has := goodIn_r _ [7, 8, 9, 10, 11, 12, 13] (by decide +kernel) (by decide +kernel)
set_option maxRecDepth 20000 in
theorem gX5_isDangerous_X5_has : GoodIn wsX5_isDangerous (wsV RX5 28 RX5 yX5_has wsX5_has) := goodIn_app (goodIn_of _ (by decide +kernel)) ggX5_isDangerous_X5_has
theorem dX5_isDangerous_0 : decode cX5_isDangerous 0 = .ok (.aload_n 0, 1) := by decide +kernel
theorem dX5_isDangerous_1 : decode cX5_isDangerous 1 = .ok (.iload_n 1, 1) := by decide +kernel
theorem dX5_isDangerous_2 : decode cX5_isDangerous 2 = .ok (.invokevirtual 28, 3) := by decide +kernel
theorem dX5_isDangerous_5 : decode cX5_isDangerous 5 = .ok (.ifCond .eq 29, 3) := by decide +kernel
theorem dX5_isDangerous_8 : decode cX5_isDangerous 8 = .ok (.aload_n 0, 1) := by decide +kernel
theorem dX5_isDangerous_9 : decode cX5_isDangerous 9 = .ok (.getfield 9, 3) := by decide +kernel
theorem dX5_isDangerous_12 : decode cX5_isDangerous 12 = .ok (.iload_n 1, 1) := by decide +kernel
theorem dX5_isDangerous_13 : decode cX5_isDangerous 13 = .ok (.iaload, 1) := by decide +kernel
theorem dX5_isDangerous_14 : decode cX5_isDangerous 14 = .ok (.bipush 10, 2) := by decide +kernel
theorem dX5_isDangerous_16 : decode cX5_isDangerous 16 = .ok (.if_icmp .lt 14, 3) := by decide +kernel
theorem dX5_isDangerous_19 : decode cX5_isDangerous 19 = .ok (.aload_n 0, 1) := by decide +kernel
theorem dX5_isDangerous_20 : decode cX5_isDangerous 20 = .ok (.getfield 15, 3) := by decide +kernel
theorem dX5_isDangerous_23 : decode cX5_isDangerous 23 = .ok (.iload_n 1, 1) := by decide +kernel
theorem dX5_isDangerous_24 : decode cX5_isDangerous 24 = .ok (.iaload, 1) := by decide +kernel
theorem dX5_isDangerous_25 : decode cX5_isDangerous 25 = .ok (.bipush 40, 2) := by decide +kernel
theorem dX5_isDangerous_27 : decode cX5_isDangerous 27 = .ok (.if_icmp .le 7, 3) := by decide +kernel
theorem dX5_isDangerous_30 : decode cX5_isDangerous 30 = .ok (.iconst 1, 1) := by decide +kernel
theorem dX5_isDangerous_31 : decode cX5_isDangerous 31 = .ok (.goto 4, 3) := by decide +kernel
theorem dX5_isDangerous_34 : decode cX5_isDangerous 34 = .ok (.iconst 0, 1) := by decide +kernel
theorem dX5_isDangerous_35 : decode cX5_isDangerous 35 = .ok (.ireturn, 1) := by decide +kernel
theorem dX5_oxygenSum_0 : decode cX5_oxygenSum 0 = .ok (.iconst 0, 1) := by decide +kernel
theorem dX5_oxygenSum_1 : decode cX5_oxygenSum 1 = .ok (.istore_n 1, 1) := by decide +kernel
theorem dX5_oxygenSum_2 : decode cX5_oxygenSum 2 = .ok (.iconst 0, 1) := by decide +kernel
theorem dX5_oxygenSum_3 : decode cX5_oxygenSum 3 = .ok (.istore_n 2, 1) := by decide +kernel
theorem dX5_oxygenSum_4 : decode cX5_oxygenSum 4 = .ok (.iload_n 2, 1) := by decide +kernel
theorem dX5_oxygenSum_5 : decode cX5_oxygenSum 5 = .ok (.aload_n 0, 1) := by decide +kernel
theorem dX5_oxygenSum_6 : decode cX5_oxygenSum 6 = .ok (.getfield 21, 3) := by decide +kernel
theorem dX5_oxygenSum_9 : decode cX5_oxygenSum 9 = .ok (.if_icmp .ge 18, 3) := by decide +kernel
theorem dX5_oxygenSum_12 : decode cX5_oxygenSum 12 = .ok (.iload_n 1, 1) := by decide +kernel
theorem dX5_oxygenSum_13 : decode cX5_oxygenSum 13 = .ok (.aload_n 0, 1) := by decide +kernel
theorem dX5_oxygenSum_14 : decode cX5_oxygenSum 14 = .ok (.getfield 9, 3) := by decide +kernel
theorem dX5_oxygenSum_17 : decode cX5_oxygenSum 17 = .ok (.iload_n 2, 1) := by decide +kernel
theorem dX5_oxygenSum_18 : decode cX5_oxygenSum 18 = .ok (.iaload, 1) := by decide +kernel
theorem dX5_oxygenSum_19 : decode cX5_oxygenSum 19 = .ok (.iadd, 1) := by decide +kernel
theorem dX5_oxygenSum_20 : decode cX5_oxygenSum 20 = .ok (.istore_n 1, 1) := by decide +kernel
theorem dX5_oxygenSum_21 : decode cX5_oxygenSum 21 = .ok (.iinc 2 1, 3) := by decide +kernel
theorem dX5_oxygenSum_24 : decode cX5_oxygenSum 24 = .ok (.goto (-20), 3) := by decide +kernel
theorem dX5_oxygenSum_27 : decode cX5_oxygenSum 27 = .ok (.iload_n 1, 1) := by decide +kernel
theorem dX5_oxygenSum_28 : decode cX5_oxygenSum 28 = .ok (.ireturn, 1) := by decide +kernel
theorem dX5_carbonSum_0 : decode cX5_carbonSum 0 = .ok (.iconst 0, 1) := by decide +kernel
theorem dX5_carbonSum_1 : decode cX5_carbonSum 1 = .ok (.istore_n 1, 1) := by decide +kernel
theorem dX5_carbonSum_2 : decode cX5_carbonSum 2 = .ok (.iconst 0, 1) := by decide +kernel
theorem dX5_carbonSum_3 : decode cX5_carbonSum 3 = .ok (.istore_n 2, 1) := by decide +kernel
theorem dX5_carbonSum_4 : decode cX5_carbonSum 4 = .ok (.iload_n 2, 1) := by decide +kernel
theorem dX5_carbonSum_5 : decode cX5_carbonSum 5 = .ok (.aload_n 0, 1) := by decide +kernel
theorem dX5_carbonSum_6 : decode cX5_carbonSum 6 = .ok (.getfield 21, 3) := by decide +kernel
theorem dX5_carbonSum_9 : decode cX5_carbonSum 9 = .ok (.if_icmp .ge 18, 3) := by decide +kernel
theorem dX5_carbonSum_12 : decode cX5_carbonSum 12 = .ok (.iload_n 1, 1) := by decide +kernel
theorem dX5_carbonSum_13 : decode cX5_carbonSum 13 = .ok (.aload_n 0, 1) := by decide +kernel
theorem dX5_carbonSum_14 : decode cX5_carbonSum 14 = .ok (.getfield 15, 3) := by decide +kernel
theorem dX5_carbonSum_17 : decode cX5_carbonSum 17 = .ok (.iload_n 2, 1) := by decide +kernel
theorem dX5_carbonSum_18 : decode cX5_carbonSum 18 = .ok (.iaload, 1) := by decide +kernel
theorem dX5_carbonSum_19 : decode cX5_carbonSum 19 = .ok (.iadd, 1) := by decide +kernel
theorem dX5_carbonSum_20 : decode cX5_carbonSum 20 = .ok (.istore_n 1, 1) := by decide +kernel
theorem dX5_carbonSum_21 : decode cX5_carbonSum 21 = .ok (.iinc 2 1, 3) := by decide +kernel
theorem dX5_carbonSum_24 : decode cX5_carbonSum 24 = .ok (.goto (-20), 3) := by decide +kernel
theorem dX5_carbonSum_27 : decode cX5_carbonSum 27 = .ok (.iload_n 1, 1) := by decide +kernel
theorem dX5_carbonSum_28 : decode cX5_carbonSum 28 = .ok (.ireturn, 1) := by decide +kernel
theorem dX6_init_0 : decode cX6_init 0 = .ok (.aload_n 0, 1) := by decide +kernel
theorem dX6_init_1 : decode cX6_init 1 = .ok (.invokespecial 3, 3) := by decide +kernel
theorem dX6_init_4 : decode cX6_init 4 = .ok (.aload_n 0, 1) := by decide +kernel
theorem dX6_init_5 : decode cX6_init 5 = .ok (.iconst 4, 1) := by decide +kernel
theorem dX6_init_6 : decode cX6_init 6 = .ok (.newarray .int, 2) := by decide +kernel
theorem dX6_init_8 : decode cX6_init 8 = .ok (.putfield 9, 3) := by decide +kernel
theorem dX6_init_11 : decode cX6_init 11 = .ok (.aload_n 0, 1) := by decide +kernel
theorem dX6_init_12 : decode cX6_init 12 = .ok (.iconst 4, 1) := by decide +kernel
theorem dX6_init_13 : decode cX6_init 13 = .ok (.newarray .int, 2) := by decide +kernel
theorem dX6_init_15 : decode cX6_init 15 = .ok (.putfield 15, 3) := by decide +kernel
theorem dX6_init_18 : decode cX6_init 18 = .ok (.aload_n 0, 1) := by decide +kernel
theorem dX6_init_19 : decode cX6_init 19 = .ok (.iconst 4, 1) := by decide +kernel
theorem dX6_init_20 : decode cX6_init 20 = .ok (.newarray .int, 2) := by decide +kernel
theorem dX6_init_22 : decode cX6_init 22 = .ok (.putfield 18, 3) := by decide +kernel
theorem dX6_init_25 : decode cX6_init 25 = .ok (.aload_n 0, 1) := by decide +kernel
theorem dX6_init_26 : decode cX6_init 26 = .ok (.iconst 4, 1) := by decide +kernel
theorem dX6_init_27 : decode cX6_init 27 = .ok (.newarray .int, 2) := by decide +kernel
theorem dX6_init_29 : decode cX6_init 29 = .ok (.putfield 21, 3) := by decide +kernel
theorem dX6_init_32 : decode cX6_init 32 = .ok (.aload_n 0, 1) := by decide +kernel
theorem dX6_init_33 : decode cX6_init 33 = .ok (.iconst 4, 1) := by decide +kernel
theorem dX6_init_34 : decode cX6_init 34 = .ok (.newarray .boolean, 2) := by decide +kernel
theorem dX6_init_36 : decode cX6_init 36 = .ok (.putfield 24, 3) := by decide +kernel
theorem dX6_init_39 : decode cX6_init 39 = .ok (.return_, 1) := by decide +kernel
theorem dX6_isFull_0 : decode cX6_isFull 0 = .ok (.aload_n 0, 1) := by decide +kernel
theorem dX6_isFull_1 : decode cX6_isFull 1 = .ok (.getfield 28, 3) := by decide +kernel
theorem dX6_isFull_4 : decode cX6_isFull 4 = .ok (.iconst 4, 1) := by decide +kernel
theorem dX6_isFull_5 : decode cX6_isFull 5 = .ok (.if_icmp .lt 7, 3) := by decide +kernel
theorem dX6_isFull_8 : decode cX6_isFull 8 = .ok (.iconst 1, 1) := by decide +kernel
theorem dX6_isFull_9 : decode cX6_isFull 9 = .ok (.goto 4, 3) := by decide +kernel
theorem dX6_isFull_12 : decode cX6_isFull 12 = .ok (.iconst 0, 1) := by decide +kernel
theorem dX6_isFull_13 : decode cX6_isFull 13 = .ok (.ireturn, 1) := by decide +kernel
theorem dX6_add_0 : decode cX6_add 0 = .ok (.aload_n 0, 1) := by decide +kernel
theorem dX6_add_1 : decode cX6_add 1 = .ok (.getfield 9, 3) := by decide +kernel
theorem dX6_add_4 : decode cX6_add 4 = .ok (.aload_n 0, 1) := by decide +kernel
theorem dX6_add_5 : decode cX6_add 5 = .ok (.getfield 28, 3) := by decide +kernel
theorem dX6_add_8 : decode cX6_add 8 = .ok (.iload_n 1, 1) := by decide +kernel
theorem dX6_add_9 : decode cX6_add 9 = .ok (.iastore, 1) := by decide +kernel
theorem dX6_add_10 : decode cX6_add 10 = .ok (.aload_n 0, 1) := by decide +kernel
theorem dX6_add_11 : decode cX6_add 11 = .ok (.getfield 21, 3) := by decide +kernel
theorem dX6_add_14 : decode cX6_add 14 = .ok (.aload_n 0, 1) := by decide +kernel
theorem dX6_add_15 : decode cX6_add 15 = .ok (.getfield 28, 3) := by decide +kernel
theorem dX6_add_18 : decode cX6_add 18 = .ok (.iload_n 2, 1) := by decide +kernel
theorem dX6_add_19 : decode cX6_add 19 = .ok (.iastore, 1) := by decide +kernel
theorem dX6_add_20 : decode cX6_add 20 = .ok (.aload_n 0, 1) := by decide +kernel
theorem dX6_add_21 : decode cX6_add 21 = .ok (.getfield 18, 3) := by decide +kernel
theorem dX6_add_24 : decode cX6_add 24 = .ok (.aload_n 0, 1) := by decide +kernel
theorem dX6_add_25 : decode cX6_add 25 = .ok (.getfield 28, 3) := by decide +kernel
theorem dX6_add_28 : decode cX6_add 28 = .ok (.bipush 20, 2) := by decide +kernel
theorem dX6_add_30 : decode cX6_add 30 = .ok (.iastore, 1) := by decide +kernel
theorem dX6_add_31 : decode cX6_add 31 = .ok (.aload_n 0, 1) := by decide +kernel
theorem dX6_add_32 : decode cX6_add 32 = .ok (.dup, 1) := by decide +kernel
theorem dX6_add_33 : decode cX6_add 33 = .ok (.getfield 28, 3) := by decide +kernel
theorem dX6_add_36 : decode cX6_add 36 = .ok (.iconst 1, 1) := by decide +kernel
theorem dX6_add_37 : decode cX6_add 37 = .ok (.iadd, 1) := by decide +kernel
theorem dX6_add_38 : decode cX6_add 38 = .ok (.putfield 28, 3) := by decide +kernel
theorem dX6_add_41 : decode cX6_add 41 = .ok (.aload_n 0, 1) := by decide +kernel
theorem dX6_add_42 : decode cX6_add 42 = .ok (.getfield 28, 3) := by decide +kernel
theorem dX6_add_45 : decode cX6_add 45 = .ok (.iconst 1, 1) := by decide +kernel
theorem dX6_add_46 : decode cX6_add 46 = .ok (.isub, 1) := by decide +kernel
theorem dX6_add_47 : decode cX6_add 47 = .ok (.ireturn, 1) := by decide +kernel
theorem dX6_copyFrom_0 : decode cX6_copyFrom 0 = .ok (.iconst 0, 1) := by decide +kernel
theorem dX6_copyFrom_1 : decode cX6_copyFrom 1 = .ok (.istore_n 2, 1) := by decide +kernel
theorem dX6_copyFrom_2 : decode cX6_copyFrom 2 = .ok (.iload_n 2, 1) := by decide +kernel
theorem dX6_copyFrom_3 : decode cX6_copyFrom 3 = .ok (.aload_n 1, 1) := by decide +kernel
theorem dX6_copyFrom_4 : decode cX6_copyFrom 4 = .ok (.getfield 28, 3) := by decide +kernel
theorem dX6_copyFrom_7 : decode cX6_copyFrom 7 = .ok (.if_icmp .ge 69, 3) := by decide +kernel
theorem dX6_copyFrom_10 : decode cX6_copyFrom 10 = .ok (.aload_n 0, 1) := by decide +kernel
theorem dX6_copyFrom_11 : decode cX6_copyFrom 11 = .ok (.getfield 9, 3) := by decide +kernel
theorem dX6_copyFrom_14 : decode cX6_copyFrom 14 = .ok (.iload_n 2, 1) := by decide +kernel
theorem dX6_copyFrom_15 : decode cX6_copyFrom 15 = .ok (.aload_n 1, 1) := by decide +kernel
theorem dX6_copyFrom_16 : decode cX6_copyFrom 16 = .ok (.getfield 9, 3) := by decide +kernel
theorem dX6_copyFrom_19 : decode cX6_copyFrom 19 = .ok (.iload_n 2, 1) := by decide +kernel
theorem dX6_copyFrom_20 : decode cX6_copyFrom 20 = .ok (.iaload, 1) := by decide +kernel
theorem dX6_copyFrom_21 : decode cX6_copyFrom 21 = .ok (.iastore, 1) := by decide +kernel
theorem dX6_copyFrom_22 : decode cX6_copyFrom 22 = .ok (.aload_n 0, 1) := by decide +kernel
theorem dX6_copyFrom_23 : decode cX6_copyFrom 23 = .ok (.getfield 15, 3) := by decide +kernel
theorem dX6_copyFrom_26 : decode cX6_copyFrom 26 = .ok (.iload_n 2, 1) := by decide +kernel
theorem dX6_copyFrom_27 : decode cX6_copyFrom 27 = .ok (.aload_n 1, 1) := by decide +kernel
theorem dX6_copyFrom_28 : decode cX6_copyFrom 28 = .ok (.getfield 15, 3) := by decide +kernel
theorem dX6_copyFrom_31 : decode cX6_copyFrom 31 = .ok (.iload_n 2, 1) := by decide +kernel
theorem dX6_copyFrom_32 : decode cX6_copyFrom 32 = .ok (.iaload, 1) := by decide +kernel
theorem dX6_copyFrom_33 : decode cX6_copyFrom 33 = .ok (.iastore, 1) := by decide +kernel
theorem dX6_copyFrom_34 : decode cX6_copyFrom 34 = .ok (.aload_n 0, 1) := by decide +kernel
theorem dX6_copyFrom_35 : decode cX6_copyFrom 35 = .ok (.getfield 18, 3) := by decide +kernel
theorem dX6_copyFrom_38 : decode cX6_copyFrom 38 = .ok (.iload_n 2, 1) := by decide +kernel
theorem dX6_copyFrom_39 : decode cX6_copyFrom 39 = .ok (.aload_n 1, 1) := by decide +kernel
theorem dX6_copyFrom_40 : decode cX6_copyFrom 40 = .ok (.getfield 18, 3) := by decide +kernel
theorem dX6_copyFrom_43 : decode cX6_copyFrom 43 = .ok (.iload_n 2, 1) := by decide +kernel
theorem dX6_copyFrom_44 : decode cX6_copyFrom 44 = .ok (.iaload, 1) := by decide +kernel
theorem dX6_copyFrom_45 : decode cX6_copyFrom 45 = .ok (.iastore, 1) := by decide +kernel
theorem dX6_copyFrom_46 : decode cX6_copyFrom 46 = .ok (.aload_n 0, 1) := by decide +kernel
theorem dX6_copyFrom_47 : decode cX6_copyFrom 47 = .ok (.getfield 21, 3) := by decide +kernel
theorem dX6_copyFrom_50 : decode cX6_copyFrom 50 = .ok (.iload_n 2, 1) := by decide +kernel
theorem dX6_copyFrom_51 : decode cX6_copyFrom 51 = .ok (.aload_n 1, 1) := by decide +kernel
theorem dX6_copyFrom_52 : decode cX6_copyFrom 52 = .ok (.getfield 21, 3) := by decide +kernel
theorem dX6_copyFrom_55 : decode cX6_copyFrom 55 = .ok (.iload_n 2, 1) := by decide +kernel
theorem dX6_copyFrom_56 : decode cX6_copyFrom 56 = .ok (.iaload, 1) := by decide +kernel
theorem dX6_copyFrom_57 : decode cX6_copyFrom 57 = .ok (.iastore, 1) := by decide +kernel
theorem dX6_copyFrom_58 : decode cX6_copyFrom 58 = .ok (.aload_n 0, 1) := by decide +kernel
theorem dX6_copyFrom_59 : decode cX6_copyFrom 59 = .ok (.getfield 24, 3) := by decide +kernel
theorem dX6_copyFrom_62 : decode cX6_copyFrom 62 = .ok (.iload_n 2, 1) := by decide +kernel
theorem dX6_copyFrom_63 : decode cX6_copyFrom 63 = .ok (.aload_n 1, 1) := by decide +kernel
theorem dX6_copyFrom_64 : decode cX6_copyFrom 64 = .ok (.getfield 24, 3) := by decide +kernel
theorem dX6_copyFrom_67 : decode cX6_copyFrom 67 = .ok (.iload_n 2, 1) := by decide +kernel
theorem dX6_copyFrom_68 : decode cX6_copyFrom 68 = .ok (.baload, 1) := by decide +kernel
theorem dX6_copyFrom_69 : decode cX6_copyFrom 69 = .ok (.bastore, 1) := by decide +kernel
theorem dX6_copyFrom_70 : decode cX6_copyFrom 70 = .ok (.iinc 2 1, 3) := by decide +kernel
theorem dX6_copyFrom_73 : decode cX6_copyFrom 73 = .ok (.goto (-71), 3) := by decide +kernel
theorem dX6_copyFrom_76 : decode cX6_copyFrom 76 = .ok (.aload_n 0, 1) := by decide +kernel
theorem dX6_copyFrom_77 : decode cX6_copyFrom 77 = .ok (.aload_n 1, 1) := by decide +kernel
theorem dX6_copyFrom_78 : decode cX6_copyFrom 78 = .ok (.getfield 28, 3) := by decide +kernel
theorem dX6_copyFrom_81 : decode cX6_copyFrom 81 = .ok (.putfield 28, 3) := by decide +kernel
theorem dX6_copyFrom_84 : decode cX6_copyFrom 84 = .ok (.return_, 1) := by decide +kernel
set_option maxRecDepth 20000 in
theorem ggX6_advance_X6_arrive : GoodIn wsX6_advance wsX6_arrive := goodIn_ca (goodIn_r _ [9, 4, 2, 10, 3, 11, 12, 13, 14, 15, 16, 17, 18, 19, 20, 21, 22, 23, 24, 25] (by decide +kernel) (by decide +kernel)) (goodIn_sub (fun _ h => List.mem_cons_of_mem _ (List.mem_append_right _ h)) (by decide +kernel))
set_option maxRecDepth 20000 in
theorem gX6_advance_X6_arrive : GoodIn wsX6_advance (wsV RX6 32 RX6 yX6_arrive wsX6_arrive) := goodIn_app (goodIn_of _ (by decide +kernel)) ggX6_advance_X6_arrive
theorem dX6_advance_0 : decode cX6_advance 0 = .ok (.iconst 0, 1) := by decide +kernel
theorem dX6_advance_1 : decode cX6_advance 1 = .ok (.istore_n 2, 1) := by decide +kernel
theorem dX6_advance_2 : decode cX6_advance 2 = .ok (.iconst 0, 1) := by decide +kernel
theorem dX6_advance_3 : decode cX6_advance 3 = .ok (.istore_n 3, 1) := by decide +kernel
theorem dX6_advance_4 : decode cX6_advance 4 = .ok (.iload_n 3, 1) := by decide +kernel
theorem dX6_advance_5 : decode cX6_advance 5 = .ok (.aload_n 0, 1) := by decide +kernel
theorem dX6_advance_6 : decode cX6_advance 6 = .ok (.getfield 28, 3) := by decide +kernel
theorem dX6_advance_9 : decode cX6_advance 9 = .ok (.if_icmp .ge 51, 3) := by decide +kernel
theorem dX6_advance_12 : decode cX6_advance 12 = .ok (.aload_n 0, 1) := by decide +kernel
theorem dX6_advance_13 : decode cX6_advance 13 = .ok (.getfield 24, 3) := by decide +kernel
theorem dX6_advance_16 : decode cX6_advance 16 = .ok (.iload_n 3, 1) := by decide +kernel
theorem dX6_advance_17 : decode cX6_advance 17 = .ok (.baload, 1) := by decide +kernel
theorem dX6_advance_18 : decode cX6_advance 18 = .ok (.ifCond .ne 36, 3) := by decide +kernel
theorem dX6_advance_21 : decode cX6_advance 21 = .ok (.aload_n 0, 1) := by decide +kernel
theorem dX6_advance_22 : decode cX6_advance 22 = .ok (.getfield 9, 3) := by decide +kernel
theorem dX6_advance_25 : decode cX6_advance 25 = .ok (.iload_n 3, 1) := by decide +kernel
theorem dX6_advance_26 : decode cX6_advance 26 = .ok (.dup2, 1) := by decide +kernel
theorem dX6_advance_27 : decode cX6_advance 27 = .ok (.iaload, 1) := by decide +kernel
theorem dX6_advance_28 : decode cX6_advance 28 = .ok (.aload_n 0, 1) := by decide +kernel
theorem dX6_advance_29 : decode cX6_advance 29 = .ok (.getfield 15, 3) := by decide +kernel
theorem dX6_advance_32 : decode cX6_advance 32 = .ok (.iload_n 3, 1) := by decide +kernel
theorem dX6_advance_33 : decode cX6_advance 33 = .ok (.iaload, 1) := by decide +kernel
theorem dX6_advance_34 : decode cX6_advance 34 = .ok (.isub, 1) := by decide +kernel
theorem dX6_advance_35 : decode cX6_advance 35 = .ok (.iastore, 1) := by decide +kernel
theorem dX6_advance_36 : decode cX6_advance 36 = .ok (.aload_n 0, 1) := by decide +kernel
theorem dX6_advance_37 : decode cX6_advance 37 = .ok (.getfield 9, 3) := by decide +kernel
theorem dX6_advance_40 : decode cX6_advance 40 = .ok (.iload_n 3, 1) := by decide +kernel
theorem dX6_advance_41 : decode cX6_advance 41 = .ok (.iaload, 1) := by decide +kernel
theorem dX6_advance_42 : decode cX6_advance 42 = .ok (.ifCond .gt 12, 3) := by decide +kernel
theorem dX6_advance_45 : decode cX6_advance 45 = .ok (.iload_n 2, 1) := by decide +kernel
theorem dX6_advance_46 : decode cX6_advance 46 = .ok (.aload_n 0, 1) := by decide +kernel
theorem dX6_advance_47 : decode cX6_advance 47 = .ok (.iload_n 3, 1) := by decide +kernel
theorem dX6_advance_48 : decode cX6_advance 48 = .ok (.aload_n 1, 1) := by decide +kernel
theorem dX6_advance_49 : decode cX6_advance 49 = .ok (.invokevirtual 32, 3) := by decide +kernel
theorem dX6_advance_52 : decode cX6_advance 52 = .ok (.iadd, 1) := by decide +kernel
theorem dX6_advance_53 : decode cX6_advance 53 = .ok (.istore_n 2, 1) := by decide +kernel
theorem dX6_advance_54 : decode cX6_advance 54 = .ok (.iinc 3 1, 3) := by decide +kernel
theorem dX6_advance_57 : decode cX6_advance 57 = .ok (.goto (-53), 3) := by decide +kernel
theorem dX6_advance_60 : decode cX6_advance 60 = .ok (.iload_n 2, 1) := by decide +kernel
theorem dX6_advance_61 : decode cX6_advance 61 = .ok (.ireturn, 1) := by decide +kernel
set_option maxRecDepth 20000 in
theorem ggX6_arrive_X3_add : GoodIn wsX6_arrive wsX3_add := goodIn_ca (goodIn_r _ [9, 10, 11, 18, 19] (by decide +kernel) (by decide +kernel)) (goodIn_sub (fun _ h => List.mem_cons_of_mem _ (List.mem_append_right _ h)) (by decide +kernel))
set_option maxRecDepth 20000 in
theorem gX6_arrive_X3_add : GoodIn wsX6_arrive (wsV RX6 36 RX3 yX3_add wsX3_add) := goodIn_app (goodIn_of _ (by decide +kernel)) ggX6_arrive_X3_add
theorem dX6_arrive_0 : decode cX6_arrive 0 = .ok (.aload_n 0, 1) := by decide +kernel
theorem dX6_arrive_1 : decode cX6_arrive 1 = .ok (.getfield 15, 3) := by decide +kernel
theorem dX6_arrive_4 : decode cX6_arrive 4 = .ok (.iload_n 1, 1) := by decide +kernel
theorem dX6_arrive_5 : decode cX6_arrive 5 = .ok (.iaload, 1) := by decide +kernel
theorem dX6_arrive_6 : decode cX6_arrive 6 = .ok (.iconst 2, 1) := by decide +kernel
theorem dX6_arrive_7 : decode cX6_arrive 7 = .ok (.if_icmp .gt 23, 3) := by decide +kernel
theorem dX6_arrive_10 : decode cX6_arrive 10 = .ok (.aload_n 0, 1) := by decide +kernel
theorem dX6_arrive_11 : decode cX6_arrive 11 = .ok (.getfield 24, 3) := by decide +kernel
theorem dX6_arrive_14 : decode cX6_arrive 14 = .ok (.iload_n 1, 1) := by decide +kernel
theorem dX6_arrive_15 : decode cX6_arrive 15 = .ok (.iconst 1, 1) := by decide +kernel
theorem dX6_arrive_16 : decode cX6_arrive 16 = .ok (.bastore, 1) := by decide +kernel
theorem dX6_arrive_17 : decode cX6_arrive 17 = .ok (.aload_n 2, 1) := by decide +kernel
theorem dX6_arrive_18 : decode cX6_arrive 18 = .ok (.bipush 100, 2) := by decide +kernel
theorem dX6_arrive_20 : decode cX6_arrive 20 = .ok (.invokevirtual 36, 3) := by decide +kernel
theorem dX6_arrive_23 : decode cX6_arrive 23 = .ok (.aload_n 0, 1) := by decide +kernel
theorem dX6_arrive_24 : decode cX6_arrive 24 = .ok (.getfield 21, 3) := by decide +kernel
theorem dX6_arrive_27 : decode cX6_arrive 27 = .ok (.iload_n 1, 1) := by decide +kernel
theorem dX6_arrive_28 : decode cX6_arrive 28 = .ok (.iaload, 1) := by decide +kernel
theorem dX6_arrive_29 : decode cX6_arrive 29 = .ok (.ireturn, 1) := by decide +kernel
theorem dX6_arrive_30 : decode cX6_arrive 30 = .ok (.aload_n 0, 1) := by decide +kernel
theorem dX6_arrive_31 : decode cX6_arrive 31 = .ok (.getfield 9, 3) := by decide +kernel
theorem dX6_arrive_34 : decode cX6_arrive 34 = .ok (.iload_n 1, 1) := by decide +kernel
theorem dX6_arrive_35 : decode cX6_arrive 35 = .ok (.bipush 100, 2) := by decide +kernel
theorem dX6_arrive_37 : decode cX6_arrive 37 = .ok (.iastore, 1) := by decide +kernel
theorem dX6_arrive_38 : decode cX6_arrive 38 = .ok (.aload_n 0, 1) := by decide +kernel
theorem dX6_arrive_39 : decode cX6_arrive 39 = .ok (.getfield 15, 3) := by decide +kernel
theorem dX6_arrive_42 : decode cX6_arrive 42 = .ok (.iload_n 1, 1) := by decide +kernel
theorem dX6_arrive_43 : decode cX6_arrive 43 = .ok (.iconst 0, 1) := by decide +kernel
theorem dX6_arrive_44 : decode cX6_arrive 44 = .ok (.iastore, 1) := by decide +kernel
theorem dX6_arrive_45 : decode cX6_arrive 45 = .ok (.aload_n 2, 1) := by decide +kernel
theorem dX6_arrive_46 : decode cX6_arrive 46 = .ok (.bipush 116, 2) := by decide +kernel
theorem dX6_arrive_48 : decode cX6_arrive 48 = .ok (.invokevirtual 36, 3) := by decide +kernel
theorem dX6_arrive_51 : decode cX6_arrive 51 = .ok (.iconst 0, 1) := by decide +kernel
theorem dX6_arrive_52 : decode cX6_arrive 52 = .ok (.ireturn, 1) := by decide +kernel
set_option maxRecDepth 20000 in
theorem ggX7_init_X5_init : GoodIn wsX7_init wsX5_init := goodIn_r _ [37, 38, 2, 3, 39, 40, 41, 42, 85, 86, 87, 88, 89] (by decide +kernel) (by decide +kernel)
set_option maxRecDepth 20000 in
theorem gX7_init_X5_init_n11 : GoodIn wsX7_init (wsX5_init) := ggX7_init_X5_init
set_option maxRecDepth 20000 in
theorem ggX7_init_X4_init : GoodIn wsX7_init wsX4_init := goodIn_r _ [44, 45, 2, 3, 39, 46, 47, 48, 49, 104, 105, 106, 107] (by decide +kernel) (by decide +kernel)
set_option maxRecDepth 20000 in
theorem gX7_init_X4_init_n20 : GoodIn wsX7_init (wsX4_init) := ggX7_init_X4_init
set_option maxRecDepth 20000 in
theorem ggX7_init_X2_init : GoodIn wsX7_init wsX2_init := goodIn_r _ [51, 52, 2, 3, 53, 54, 39, 55, 48, 56, 57, 108, 109, 110, 111, 112] (by decide +kernel) (by decide +kernel)
set_option maxRecDepth 20000 in
theorem gX7_init_X2_init_n27 : GoodIn wsX7_init (wsX2_init) := ggX7_init_X2_init
set_option maxRecDepth 20000 in
theorem ggX7_init_X1_init : GoodIn wsX7_init wsX1_init := goodIn_r _ [59, 60, 2, 3, 39, 61, 53, 62, 63, 48, 64, 113, 114, 115, 116, 117, 118] (by decide +kernel) (by decide +kernel)
set_option maxRecDepth 20000 in
theorem gX7_init_X1_init_n34 : GoodIn wsX7_init (wsX1_init) := ggX7_init_X1_init
set_option maxRecDepth 20000 in
theorem ggX7_init_X0_init : GoodIn wsX7_init wsX0_init := goodIn_r _ [66, 67, 2, 3, 53, 68, 39, 69, 70, 71, 119, 120, 121, 122, 123] (by decide +kernel) (by decide +kernel)
set_option maxRecDepth 20000 in
theorem gX7_init_X0_init_n41 : GoodIn wsX7_init (wsX0_init) := ggX7_init_X0_init
set_option maxRecDepth 20000 in
theorem ggX7_init_X6_init : GoodIn wsX7_init wsX6_init := goodIn_r _ [73, 74, 2, 3, 39, 75, 76, 77, 78, 48, 79, 124, 125, 126, 127, 128, 129] (by decide +kernel) (by decide +kernel)
set_option maxRecDepth 20000 in
theorem gX7_init_X6_init_n48 : GoodIn wsX7_init (wsX6_init) := ggX7_init_X6_init
set_option maxRecDepth 20000 in
theorem ggX7_init_X3_init : GoodIn wsX7_init wsX3_init := goodIn_r _ [82, 83, 2, 3, 53, 84, 130, 131] (by decide +kernel) (by decide +kernel)
set_option maxRecDepth 20000 in
theorem gX7_init_X3_init : GoodIn wsX7_init (wsX3_init) := ggX7_init_X3_init
theorem dX7_init_0 : decode cX7_init 0 = .ok (.aload_n 0, 1) := by decide +kernel
theorem dX7_init_1 : decode cX7_init 1 = .ok (.invokespecial 3, 3) := by decide +kernel
theorem dX7_init_4 : decode cX7_init 4 = .ok (.aload_n 0, 1) := by decide +kernel
theorem dX7_init_5 : decode cX7_init 5 = .ok (.new 9, 3) := by decide +kernel
theorem dX7_init_8 : decode cX7_init 8 = .ok (.dup, 1) := by decide +kernel
theorem dX7_init_9 : decode cX7_init 9 = .ok (.invokespecial 11, 3) := by decide +kernel
theorem dX7_init_12 : decode cX7_init 12 = .ok (.putfield 12, 3) := by decide +kernel
theorem dX7_init_15 : decode cX7_init 15 = .ok (.aload_n 0, 1) := by decide +kernel
theorem dX7_init_16 : decode cX7_init 16 = .ok (.new 18, 3) := by decide +kernel
theorem dX7_init_19 : decode cX7_init 19 = .ok (.dup, 1) := by decide +kernel
theorem dX7_init_20 : decode cX7_init 20 = .ok (.invokespecial 20, 3) := by decide +kernel
theorem dX7_init_23 : decode cX7_init 23 = .ok (.putfield 21, 3) := by decide +kernel
theorem dX7_init_26 : decode cX7_init 26 = .ok (.aload_n 0, 1) := by decide +kernel
theorem dX7_init_27 : decode cX7_init 27 = .ok (.new 25, 3) := by decide +kernel
theorem dX7_init_30 : decode cX7_init 30 = .ok (.dup, 1) := by decide +kernel
theorem dX7_init_31 : decode cX7_init 31 = .ok (.invokespecial 27, 3) := by decide +kernel
theorem dX7_init_34 : decode cX7_init 34 = .ok (.putfield 28, 3) := by decide +kernel
theorem dX7_init_37 : decode cX7_init 37 = .ok (.aload_n 0, 1) := by decide +kernel
theorem dX7_init_38 : decode cX7_init 38 = .ok (.new 32, 3) := by decide +kernel
theorem dX7_init_41 : decode cX7_init 41 = .ok (.dup, 1) := by decide +kernel
theorem dX7_init_42 : decode cX7_init 42 = .ok (.invokespecial 34, 3) := by decide +kernel
theorem dX7_init_45 : decode cX7_init 45 = .ok (.putfield 35, 3) := by decide +kernel
theorem dX7_init_48 : decode cX7_init 48 = .ok (.aload_n 0, 1) := by decide +kernel
theorem dX7_init_49 : decode cX7_init 49 = .ok (.new 39, 3) := by decide +kernel
theorem dX7_init_52 : decode cX7_init 52 = .ok (.dup, 1) := by decide +kernel
theorem dX7_init_53 : decode cX7_init 53 = .ok (.invokespecial 41, 3) := by decide +kernel
theorem dX7_init_56 : decode cX7_init 56 = .ok (.putfield 42, 3) := by decide +kernel
theorem dX7_init_59 : decode cX7_init 59 = .ok (.aload_n 0, 1) := by decide +kernel
theorem dX7_init_60 : decode cX7_init 60 = .ok (.new 46, 3) := by decide +kernel
theorem dX7_init_63 : decode cX7_init 63 = .ok (.dup, 1) := by decide +kernel
theorem dX7_init_64 : decode cX7_init 64 = .ok (.invokespecial 48, 3) := by decide +kernel
theorem dX7_init_67 : decode cX7_init 67 = .ok (.putfield 49, 3) := by decide +kernel
theorem dX7_init_70 : decode cX7_init 70 = .ok (.aload_n 0, 1) := by decide +kernel
theorem dX7_init_71 : decode cX7_init 71 = .ok (.bipush 10, 2) := by decide +kernel
theorem dX7_init_73 : decode cX7_init 73 = .ok (.putfield 53, 3) := by decide +kernel
theorem dX7_init_76 : decode cX7_init 76 = .ok (.aload_n 0, 1) := by decide +kernel
theorem dX7_init_77 : decode cX7_init 77 = .ok (.bipush 100, 2) := by decide +kernel
theorem dX7_init_79 : decode cX7_init 79 = .ok (.putfield 57, 3) := by decide +kernel
theorem dX7_init_82 : decode cX7_init 82 = .ok (.aload_n 0, 1) := by decide +kernel
theorem dX7_init_83 : decode cX7_init 83 = .ok (.bipush 50, 2) := by decide +kernel
theorem dX7_init_85 : decode cX7_init 85 = .ok (.putfield 60, 3) := by decide +kernel
theorem dX7_init_88 : decode cX7_init 88 = .ok (.aload_n 0, 1) := by decide +kernel
theorem dX7_init_89 : decode cX7_init 89 = .ok (.bipush 50, 2) := by decide +kernel
theorem dX7_init_91 : decode cX7_init 91 = .ok (.putfield 63, 3) := by decide +kernel
theorem dX7_init_94 : decode cX7_init 94 = .ok (.aload_n 0, 1) := by decide +kernel
theorem dX7_init_95 : decode cX7_init 95 = .ok (.new 66, 3) := by decide +kernel
theorem dX7_init_98 : decode cX7_init 98 = .ok (.dup, 1) := by decide +kernel
theorem dX7_init_99 : decode cX7_init 99 = .ok (.iload_n 1, 1) := by decide +kernel
theorem dX7_init_100 : decode cX7_init 100 = .ok (.invokespecial 68, 3) := by decide +kernel
theorem dX7_init_103 : decode cX7_init 103 = .ok (.putfield 71, 3) := by decide +kernel
theorem dX7_init_106 : decode cX7_init 106 = .ok (.return_, 1) := by decide +kernel
set_option maxRecDepth 20000 in
theorem ggX7_copyFrom_X5_copyFrom : GoodIn wsX7_copyFrom wsX5_copyFrom := goodIn_ca (goodIn_r _ [18, 19, 20, 21, 22, 23, 89, 90, 91, 92, 93] (by decide +kernel) (by decide +kernel)) (goodIn_sub (fun _ h => List.mem_cons_of_mem _ (List.mem_append_right _ h)) (by decide +kernel))
set_option maxRecDepth 20000 in
theorem gX7_copyFrom_X5_copyFrom : GoodIn wsX7_copyFrom (wsV RX7 75 RX5 yX5_copyFrom wsX5_copyFrom) := goodIn_app (goodIn_of _ (by decide +kernel)) ggX7_copyFrom_X5_copyFrom
set_option maxRecDepth 20000 in
theorem ggX7_copyFrom_X4_copyFrom : GoodIn wsX7_copyFrom wsX4_copyFrom := goodIn_ca (goodIn_r _ [28, 29, 30, 31, 32, 94, 95, 96, 97] (by decide +kernel) (by decide +kernel)) (goodIn_sub (fun _ h => List.mem_cons_of_mem _ (List.mem_append_right _ h)) (by decide +kernel))
set_option maxRecDepth 20000 in
theorem gX7_copyFrom_X4_copyFrom : GoodIn wsX7_copyFrom (wsV RX7 79 RX4 yX4_copyFrom wsX4_copyFrom) := goodIn_app (goodIn_of _ (by decide +kernel)) ggX7_copyFrom_X4_copyFrom
set_option maxRecDepth 20000 in
theorem ggX7_copyFrom_X2_copyFrom : GoodIn wsX7_copyFrom wsX2_copyFrom := goodIn_ca (goodIn_r _ [37, 38, 39, 40, 41, 42, 98, 99, 100, 101, 102] (by decide +kernel) (by decide +kernel)) (goodIn_sub (fun _ h => List.mem_cons_of_mem _ (List.mem_append_right _ h)) (by decide +kernel))
set_option maxRecDepth 20000 in
theorem gX7_copyFrom_X2_copyFrom : GoodIn wsX7_copyFrom (wsV RX7 82 RX2 yX2_copyFrom wsX2_copyFrom) := goodIn_app (goodIn_of _ (by decide +kernel)) ggX7_copyFrom_X2_copyFrom
set_option maxRecDepth 20000 in
theorem ggX7_copyFrom_X1_copyFrom : GoodIn wsX7_copyFrom wsX1_copyFrom := goodIn_ca (goodIn_r _ [47, 48, 49, 50, 51, 52, 53, 103, 104, 105, 106, 107, 108] (by decide +kernel) (by decide +kernel)) (goodIn_sub (fun _ h => List.mem_cons_of_mem _ (List.mem_append_right _ h)) (by decide +kernel))
set_option maxRecDepth 20000 in
theorem gX7_copyFrom_X1_copyFrom : GoodIn wsX7_copyFrom (wsV RX7 85 RX1 yX1_copyFrom wsX1_copyFrom) := goodIn_app (goodIn_of _ (by decide +kernel)) ggX7_copyFrom_X1_copyFrom
set_option maxRecDepth 20000 in
theorem ggX7_copyFrom_X0_copyFrom : GoodIn wsX7_copyFrom wsX0_copyFrom := goodIn_ca (goodIn_r _ [58, 59, 60, 61, 62, 63, 109, 110, 111, 112, 113] (by decide +kernel) (by decide +kernel)) (goodIn_sub (fun _ h => List.mem_cons_of_mem _ (List.mem_append_right _ h)) (by decide +kernel))
set_option maxRecDepth 20000 in
theorem gX7_copyFrom_X0_copyFrom : GoodIn wsX7_copyFrom (wsV RX7 88 RX0 yX0_copyFrom wsX0_copyFrom) := goodIn_app (goodIn_of _ (by decide +kernel)) ggX7_copyFrom_X0_copyFrom
set_option maxRecDepth 20000 in
theorem ggX7_copyFrom_X6_copyFrom : GoodIn wsX7_copyFrom wsX6_copyFrom := goodIn_ca (goodIn_r _ [68, 69, 70, 71, 72, 73, 74, 114, 115, 116, 117, 118, 119] (by decide +kernel) (by decide +kernel)) (goodIn_sub (fun _ h => List.mem_cons_of_mem _ (List.mem_append_right _ h)) (by decide +kernel))
set_option maxRecDepth 20000 in
theorem gX7_copyFrom_X6_copyFrom : GoodIn wsX7_copyFrom (wsV RX7 91 RX6 yX6_copyFrom wsX6_copyFrom) := goodIn_app (goodIn_of _ (by decide +kernel)) ggX7_copyFrom_X6_copyFrom
theorem dX7_copyFrom_0 : decode cX7_copyFrom 0 = .ok (.aload_n 0, 1) := by decide +kernel
theorem dX7_copyFrom_1 : decode cX7_copyFrom 1 = .ok (.getfield 12, 3) := by decide +kernel
theorem dX7_copyFrom_4 : decode cX7_copyFrom 4 = .ok (.aload_n 1, 1) := by decide +kernel
theorem dX7_copyFrom_5 : decode cX7_copyFrom 5 = .ok (.getfield 12, 3) := by decide +kernel
theorem dX7_copyFrom_8 : decode cX7_copyFrom 8 = .ok (.invokevirtual 75, 3) := by decide +kernel
theorem dX7_copyFrom_11 : decode cX7_copyFrom 11 = .ok (.aload_n 0, 1) := by decide +kernel
theorem dX7_copyFrom_12 : decode cX7_copyFrom 12 = .ok (.getfield 21, 3) := by decide +kernel
theorem dX7_copyFrom_15 : decode cX7_copyFrom 15 = .ok (.aload_n 1, 1) := by decide +kernel
theorem dX7_copyFrom_16 : decode cX7_copyFrom 16 = .ok (.getfield 21, 3) := by decide +kernel
theorem dX7_copyFrom_19 : decode cX7_copyFrom 19 = .ok (.invokevirtual 79, 3) := by decide +kernel
theorem dX7_copyFrom_22 : decode cX7_copyFrom 22 = .ok (.aload_n 0, 1) := by decide +kernel
theorem dX7_copyFrom_23 : decode cX7_copyFrom 23 = .ok (.getfield 28, 3) := by decide +kernel
theorem dX7_copyFrom_26 : decode cX7_copyFrom 26 = .ok (.aload_n 1, 1) := by decide +kernel
theorem dX7_copyFrom_27 : decode cX7_copyFrom 27 = .ok (.getfield 28, 3) := by decide +kernel
theorem dX7_copyFrom_30 : decode cX7_copyFrom 30 = .ok (.invokevirtual 82, 3) := by decide +kernel
theorem dX7_copyFrom_33 : decode cX7_copyFrom 33 = .ok (.aload_n 0, 1) := by decide +kernel
theorem dX7_copyFrom_34 : decode cX7_copyFrom 34 = .ok (.getfield 35, 3) := by decide +kernel
theorem dX7_copyFrom_37 : decode cX7_copyFrom 37 = .ok (.aload_n 1, 1) := by decide +kernel
theorem dX7_copyFrom_38 : decode cX7_copyFrom 38 = .ok (.getfield 35, 3) := by decide +kernel
theorem dX7_copyFrom_41 : decode cX7_copyFrom 41 = .ok (.invokevirtual 85, 3) := by decide +kernel
theorem dX7_copyFrom_44 : decode cX7_copyFrom 44 = .ok (.aload_n 0, 1) := by decide +kernel
theorem dX7_copyFrom_45 : decode cX7_copyFrom 45 = .ok (.getfield 42, 3) := by decide +kernel
theorem dX7_copyFrom_48 : decode cX7_copyFrom 48 = .ok (.aload_n 1, 1) := by decide +kernel
theorem dX7_copyFrom_49 : decode cX7_copyFrom 49 = .ok (.getfield 42, 3) := by decide +kernel
theorem dX7_copyFrom_52 : decode cX7_copyFrom 52 = .ok (.invokevirtual 88, 3) := by decide +kernel
theorem dX7_copyFrom_55 : decode cX7_copyFrom 55 = .ok (.aload_n 0, 1) := by decide +kernel
theorem dX7_copyFrom_56 : decode cX7_copyFrom 56 = .ok (.getfield 49, 3) := by decide +kernel
theorem dX7_copyFrom_59 : decode cX7_copyFrom 59 = .ok (.aload_n 1, 1) := by decide +kernel
theorem dX7_copyFrom_60 : decode cX7_copyFrom 60 = .ok (.getfield 49, 3) := by decide +kernel
theorem dX7_copyFrom_63 : decode cX7_copyFrom 63 = .ok (.invokevirtual 91, 3) := by decide +kernel
theorem dX7_copyFrom_66 : decode cX7_copyFrom 66 = .ok (.aload_n 0, 1) := by decide +kernel
theorem dX7_copyFrom_67 : decode cX7_copyFrom 67 = .ok (.aload_n 1, 1) := by decide +kernel
theorem dX7_copyFrom_68 : decode cX7_copyFrom 68 = .ok (.getfield 94, 3) := by decide +kernel
theorem dX7_copyFrom_71 : decode cX7_copyFrom 71 = .ok (.putfield 94, 3) := by decide +kernel
theorem dX7_copyFrom_74 : decode cX7_copyFrom 74 = .ok (.aload_n 0, 1) := by decide +kernel
theorem dX7_copyFrom_75 : decode cX7_copyFrom 75 = .ok (.aload_n 1, 1) := by decide +kernel
theorem dX7_copyFrom_76 : decode cX7_copyFrom 76 = .ok (.getfield 97, 3) := by decide +kernel
theorem dX7_copyFrom_79 : decode cX7_copyFrom 79 = .ok (.putfield 97, 3) := by decide +kernel
theorem dX7_copyFrom_82 : decode cX7_copyFrom 82 = .ok (.aload_n 0, 1) := by decide +kernel
theorem dX7_copyFrom_83 : decode cX7_copyFrom 83 = .ok (.aload_n 1, 1) := by decide +kernel
theorem dX7_copyFrom_84 : decode cX7_copyFrom 84 = .ok (.getfield 53, 3) := by decide +kernel
theorem dX7_copyFrom_87 : decode cX7_copyFrom 87 = .ok (.putfield 53, 3) := by decide +kernel
theorem dX7_copyFrom_90 : decode cX7_copyFrom 90 = .ok (.aload_n 0, 1) := by decide +kernel
theorem dX7_copyFrom_91 : decode cX7_copyFrom 91 = .ok (.aload_n 1, 1) := by decide +kernel
theorem dX7_copyFrom_92 : decode cX7_copyFrom 92 = .ok (.getfield 57, 3) := by decide +kernel
theorem dX7_copyFrom_95 : decode cX7_copyFrom 95 = .ok (.putfield 57, 3) := by decide +kernel
theorem dX7_copyFrom_98 : decode cX7_copyFrom 98 = .ok (.aload_n 0, 1) := by decide +kernel
theorem dX7_copyFrom_99 : decode cX7_copyFrom 99 = .ok (.aload_n 1, 1) := by decide +kernel
theorem dX7_copyFrom_100 : decode cX7_copyFrom 100 = .ok (.getfield 60, 3) := by decide +kernel
theorem dX7_copyFrom_103 : decode cX7_copyFrom 103 = .ok (.putfield 60, 3) := by decide +kernel
theorem dX7_copyFrom_106 : decode cX7_copyFrom 106 = .ok (.aload_n 0, 1) := by decide +kernel
theorem dX7_copyFrom_107 : decode cX7_copyFrom 107 = .ok (.aload_n 1, 1) := by decide +kernel
theorem dX7_copyFrom_108 : decode cX7_copyFrom 108 = .ok (.getfield 101, 3) := by decide +kernel
theorem dX7_copyFrom_111 : decode cX7_copyFrom 111 = .ok (.putfield 101, 3) := by decide +kernel
theorem dX7_copyFrom_114 : decode cX7_copyFrom 114 = .ok (.aload_n 0, 1) := by decide +kernel
theorem dX7_copyFrom_115 : decode cX7_copyFrom 115 = .ok (.aload_n 1, 1) := by decide +kernel
theorem dX7_copyFrom_116 : decode cX7_copyFrom 116 = .ok (.getfield 63, 3) := by decide +kernel
theorem dX7_copyFrom_119 : decode cX7_copyFrom 119 = .ok (.putfield 63, 3) := by decide +kernel
theorem dX7_copyFrom_122 : decode cX7_copyFrom 122 = .ok (.return_, 1) := by decide +kernel
set_option maxRecDepth 20000 in
theorem ggX7_passMinute_X7_handleCommands : GoodIn wsX7_passMinute wsX7_handleCommands := goodIn_ca (goodIn_r _ [11, 12, 13, 5, 2, 14, 15, 16, 17, 18, 19, 20, 21, 22, 23, 24, 25, 26, 27, 28, 29, 30, 31, 32, 33, 34, 35, 36, 10, 37, 38, 39, 40, 41, 42, 43, 44, 45, 46, 47, 48, 49, 50, 51, 52, 53, 54, 55, 56, 57, 58, 59, 60, 61, 62, 63, 183, 184, 185, 186, 187, 188, 189, 190, 191, 192, 193, 194, 195, 196, 197, 198, 199, 200, 201, 202, 203, 204, 205, 206, 207, 208, 209, 210, 211, 212] (by decide +kernel) (by decide +kernel)) (goodIn_sub (fun _ h => List.mem_cons_of_mem _ (List.mem_append_right _ h)) (by decide +kernel))
set_option maxRecDepth 20000 in
theorem gX7_passMinute_X7_handleCommands : GoodIn wsX7_passMinute (wsV RX7 104 RX7 yX7_handleCommands wsX7_handleCommands) := goodIn_app (goodIn_of _ (by decide +kernel)) ggX7_passMinute_X7_handleCommands
set_option maxRecDepth 20000 in
theorem ggX7_passMinute_X6_advance : GoodIn wsX7_passMinute wsX6_advance := goodIn_ca (goodIn_r _ [68, 69, 70, 71, 72, 73, 74, 75, 67, 76, 77, 78, 24, 25, 26, 27, 28, 29, 213, 214, 215, 216, 217, 218, 202, 203] (by decide +kernel) (by decide +kernel)) (goodIn_sub (fun _ h => List.mem_cons_of_mem _ (List.mem_append_right _ h)) (by decide +kernel))
set_option maxRecDepth 20000 in
theorem gX7_passMinute_X6_advance : GoodIn wsX7_passMinute (wsV RX7 107 RX6 yX6_advance wsX6_advance) := goodIn_app (goodIn_of _ (by decide +kernel)) ggX7_passMinute_X6_advance
set_option maxRecDepth 20000 in
theorem ggX7_passMinute_X7_bringWater : GoodIn wsX7_passMinute wsX7_bringWater := goodIn_r _ [82, 83, 84, 183, 184, 185, 186, 187, 188, 189, 190, 191, 192, 193, 194, 195, 196] (by decide +kernel) (by decide +kernel)
set_option maxRecDepth 20000 in
theorem gX7_passMinute_X7_bringWater : GoodIn wsX7_passMinute (wsV RX7 111 RX7 yX7_bringWater wsX7_bringWater) := goodIn_app (goodIn_of _ (by decide +kernel)) ggX7_passMinute_X7_bringWater
set_option maxRecDepth 20000 in
theorem ggX7_passMinute_X7_runDevices : GoodIn wsX7_passMinute wsX7_runDevices := goodIn_ca (goodIn_r _ [88, 89, 90, 42, 91, 92, 93, 94, 95, 3, 96, 83, 97, 98, 99, 100, 101, 102, 103, 10, 104, 5, 105, 106, 47, 107, 108, 109, 110, 111, 112, 113, 114, 115, 116, 117, 118, 119, 120, 121, 122, 123, 124, 183, 184, 185, 186, 187, 188, 189, 190, 191, 192, 193, 194, 195, 196, 204, 205, 206, 207, 208, 219, 220, 221, 222, 223] (by decide +kernel) (by decide +kernel)) (goodIn_sub (fun _ h => List.mem_cons_of_mem _ (List.mem_append_right _ h)) (by decide +kernel))
set_option maxRecDepth 20000 in
theorem gX7_passMinute_X7_runDevices : GoodIn wsX7_passMinute (wsV RX7 114 RX7 yX7_runDevices wsX7_runDevices) := goodIn_app (goodIn_of _ (by decide +kernel)) ggX7_passMinute_X7_runDevices
set_option maxRecDepth 20000 in
theorem ggX7_passMinute_X5_leakOut : GoodIn wsX7_passMinute wsX5_leakOut := goodIn_ca (goodIn_r _ [128, 119, 129, 124, 114, 98, 99, 100, 130, 219, 220, 221, 222, 223] (by decide +kernel) (by decide +kernel)) (goodIn_sub (fun _ h => List.mem_cons_of_mem _ (List.mem_append_right _ h)) (by decide +kernel))
set_option maxRecDepth 20000 in
theorem gX7_passMinute_X5_leakOut : GoodIn wsX7_passMinute (wsV RX7 117 RX5 yX5_leakOut wsX5_leakOut) := goodIn_app (goodIn_of _ (by decide +kernel)) ggX7_passMinute_X5_leakOut
set_option maxRecDepth 20000 in
theorem ggX7_passMinute_X7_levelRooms : GoodIn wsX7_passMinute wsX7_levelRooms := goodIn_ca (goodIn_r _ [134, 43, 135, 136, 3, 137, 138, 139, 140, 141, 111, 142, 124, 113, 115, 116, 117, 118, 119, 183, 184, 185, 186, 187, 188, 189, 190, 191, 192, 193, 194, 195, 196, 209, 210, 211, 212, 219, 220, 221, 222, 223] (by decide +kernel) (by decide +kernel)) (goodIn_sub (fun _ h => List.mem_cons_of_mem _ (List.mem_append_right _ h)) (by decide +kernel))
set_option maxRecDepth 20000 in
theorem gX7_passMinute_X7_levelRooms : GoodIn wsX7_passMinute (wsV RX7 120 RX7 yX7_levelRooms wsX7_levelRooms) := goodIn_app (goodIn_of _ (by decide +kernel)) ggX7_passMinute_X7_levelRooms
set_option maxRecDepth 20000 in
theorem ggX7_passMinute_X1_breathe : GoodIn wsX7_passMinute wsX1_breathe := goodIn_ca (goodIn_r _ [147, 148, 149, 150, 151, 152, 153, 154, 155, 146, 156, 157, 158, 159, 111, 160, 124, 114, 98, 99, 100, 113, 115, 116, 117, 118, 119, 161, 24, 25, 26, 27, 28, 29, 224, 225, 226, 227, 228, 229, 219, 220, 221, 222, 223, 202, 203] (by decide +kernel) (by decide +kernel)) (goodIn_sub (fun _ h => List.mem_cons_of_mem _ (List.mem_append_right _ h)) (by decide +kernel))
set_option maxRecDepth 20000 in
theorem gX7_passMinute_X1_breathe : GoodIn wsX7_passMinute (wsV RX7 123 RX1 yX1_breathe wsX1_breathe) := goodIn_app (goodIn_of _ (by decide +kernel)) ggX7_passMinute_X1_breathe
set_option maxRecDepth 20000 in
theorem ggX7_passMinute_X1_isInDanger : GoodIn wsX7_passMinute wsX1_isInDanger := goodIn_ca (goodIn_r _ [165, 148, 149, 151, 166, 167, 168, 111, 169, 124, 113, 115, 116, 117, 118, 119, 224, 225, 226, 227, 228, 229, 219, 220, 221, 222, 223] (by decide +kernel) (by decide +kernel)) (goodIn_sub (fun _ h => List.mem_cons_of_mem _ (List.mem_append_right _ h)) (by decide +kernel))
set_option maxRecDepth 20000 in
theorem gX7_passMinute_X1_isInDanger : GoodIn wsX7_passMinute (wsV RX7 127 RX1 yX1_isInDanger wsX1_isInDanger) := goodIn_app (goodIn_of _ (by decide +kernel)) ggX7_passMinute_X1_isInDanger
set_option maxRecDepth 20000 in
theorem ggX7_passMinute_X7_beginSafeMode : GoodIn wsX7_passMinute wsX7_beginSafeMode := goodIn_ca (goodIn_r _ [173, 6, 42, 4, 12, 13, 2, 174, 175, 176, 47, 177, 49, 178, 50, 179, 180, 181, 146, 182, 148, 150, 23, 24, 25, 26, 27, 28, 29, 183, 184, 185, 186, 187, 188, 189, 190, 191, 192, 193, 194, 195, 196, 197, 198, 199, 200, 201, 204, 205, 206, 207, 208, 224, 225, 226, 227, 228, 229, 202, 203] (by decide +kernel) (by decide +kernel)) (goodIn_sub (fun _ h => List.mem_cons_of_mem _ (List.mem_append_right _ h)) (by decide +kernel))
set_option maxRecDepth 20000 in
theorem gX7_passMinute_X7_beginSafeMode : GoodIn wsX7_passMinute (wsV RX7 131 RX7 yX7_beginSafeMode wsX7_beginSafeMode) := goodIn_app (goodIn_of _ (by decide +kernel)) ggX7_passMinute_X7_beginSafeMode
theorem dX7_passMinute_0 : decode cX7_passMinute 0 = .ok (.aload_n 0, 1) := by decide +kernel
theorem dX7_passMinute_1 : decode cX7_passMinute 1 = .ok (.invokevirtual 104, 3) := by decide +kernel
theorem dX7_passMinute_4 : decode cX7_passMinute 4 = .ok (.aload_n 0, 1) := by decide +kernel
theorem dX7_passMinute_5 : decode cX7_passMinute 5 = .ok (.aload_n 0, 1) := by decide +kernel
theorem dX7_passMinute_6 : decode cX7_passMinute 6 = .ok (.getfield 49, 3) := by decide +kernel
theorem dX7_passMinute_9 : decode cX7_passMinute 9 = .ok (.aload_n 0, 1) := by decide +kernel
theorem dX7_passMinute_10 : decode cX7_passMinute 10 = .ok (.getfield 71, 3) := by decide +kernel
theorem dX7_passMinute_13 : decode cX7_passMinute 13 = .ok (.invokevirtual 107, 3) := by decide +kernel
theorem dX7_passMinute_16 : decode cX7_passMinute 16 = .ok (.invokevirtual 111, 3) := by decide +kernel
theorem dX7_passMinute_19 : decode cX7_passMinute 19 = .ok (.aload_n 0, 1) := by decide +kernel
theorem dX7_passMinute_20 : decode cX7_passMinute 20 = .ok (.invokevirtual 114, 3) := by decide +kernel
theorem dX7_passMinute_23 : decode cX7_passMinute 23 = .ok (.aload_n 0, 1) := by decide +kernel
theorem dX7_passMinute_24 : decode cX7_passMinute 24 = .ok (.getfield 12, 3) := by decide +kernel
theorem dX7_passMinute_27 : decode cX7_passMinute 27 = .ok (.invokevirtual 117, 3) := by decide +kernel
theorem dX7_passMinute_30 : decode cX7_passMinute 30 = .ok (.aload_n 0, 1) := by decide +kernel
theorem dX7_passMinute_31 : decode cX7_passMinute 31 = .ok (.invokevirtual 120, 3) := by decide +kernel
theorem dX7_passMinute_34 : decode cX7_passMinute 34 = .ok (.aload_n 0, 1) := by decide +kernel
theorem dX7_passMinute_35 : decode cX7_passMinute 35 = .ok (.getfield 35, 3) := by decide +kernel
theorem dX7_passMinute_38 : decode cX7_passMinute 38 = .ok (.aload_n 0, 1) := by decide +kernel
theorem dX7_passMinute_39 : decode cX7_passMinute 39 = .ok (.getfield 12, 3) := by decide +kernel
theorem dX7_passMinute_42 : decode cX7_passMinute 42 = .ok (.aload_n 0, 1) := by decide +kernel
theorem dX7_passMinute_43 : decode cX7_passMinute 43 = .ok (.getfield 71, 3) := by decide +kernel
theorem dX7_passMinute_46 : decode cX7_passMinute 46 = .ok (.aload_n 0, 1) := by decide +kernel
theorem dX7_passMinute_47 : decode cX7_passMinute 47 = .ok (.getfield 94, 3) := by decide +kernel
theorem dX7_passMinute_50 : decode cX7_passMinute 50 = .ok (.invokevirtual 123, 3) := by decide +kernel
theorem dX7_passMinute_53 : decode cX7_passMinute 53 = .ok (.aload_n 0, 1) := by decide +kernel
theorem dX7_passMinute_54 : decode cX7_passMinute 54 = .ok (.getfield 97, 3) := by decide +kernel
theorem dX7_passMinute_57 : decode cX7_passMinute 57 = .ok (.ifCond .ne 21, 3) := by decide +kernel
theorem dX7_passMinute_60 : decode cX7_passMinute 60 = .ok (.aload_n 0, 1) := by decide +kernel
theorem dX7_passMinute_61 : decode cX7_passMinute 61 = .ok (.getfield 35, 3) := by decide +kernel
theorem dX7_passMinute_64 : decode cX7_passMinute 64 = .ok (.aload_n 0, 1) := by decide +kernel
theorem dX7_passMinute_65 : decode cX7_passMinute 65 = .ok (.getfield 12, 3) := by decide +kernel
theorem dX7_passMinute_68 : decode cX7_passMinute 68 = .ok (.invokevirtual 127, 3) := by decide +kernel
theorem dX7_passMinute_71 : decode cX7_passMinute 71 = .ok (.ifCond .eq 7, 3) := by decide +kernel
theorem dX7_passMinute_74 : decode cX7_passMinute 74 = .ok (.aload_n 0, 1) := by decide +kernel
theorem dX7_passMinute_75 : decode cX7_passMinute 75 = .ok (.invokevirtual 131, 3) := by decide +kernel
theorem dX7_passMinute_78 : decode cX7_passMinute 78 = .ok (.aload_n 0, 1) := by decide +kernel
theorem dX7_passMinute_79 : decode cX7_passMinute 79 = .ok (.dup, 1) := by decide +kernel
theorem dX7_passMinute_80 : decode cX7_passMinute 80 = .ok (.getfield 94, 3) := by decide +kernel
theorem dX7_passMinute_83 : decode cX7_passMinute 83 = .ok (.iconst 1, 1) := by decide +kernel
theorem dX7_passMinute_84 : decode cX7_passMinute 84 = .ok (.iadd, 1) := by decide +kernel
theorem dX7_passMinute_85 : decode cX7_passMinute 85 = .ok (.putfield 94, 3) := by decide +kernel
theorem dX7_passMinute_88 : decode cX7_passMinute 88 = .ok (.return_, 1) := by decide +kernel
set_option maxRecDepth 20000 in
theorem ggX7_keepsMass_X5_oxygenSum : GoodIn wsX7_keepsMass wsX5_oxygenSum := goodIn_ca (goodIn_r _ [10, 11, 12, 32, 33, 34, 35, 36] (by decide +kernel) (by decide +kernel)) (goodIn_sub (fun _ h => List.mem_cons_of_mem _ (List.mem_append_right _ h)) (by decide +kernel))
set_option maxRecDepth 20000 in
theorem gX7_keepsMass_X5_oxygenSum : GoodIn wsX7_keepsMass (wsV RX7 134 RX5 yX5_oxygenSum wsX5_oxygenSum) := goodIn_app (goodIn_of _ (by decide +kernel)) ggX7_keepsMass_X5_oxygenSum
set_option maxRecDepth 20000 in
theorem ggX7_keepsMass_X5_carbonSum : GoodIn wsX7_keepsMass wsX5_carbonSum := goodIn_ca (goodIn_r _ [16, 11, 17, 32, 33, 34, 35, 36] (by decide +kernel) (by decide +kernel)) (goodIn_sub (fun _ h => List.mem_cons_of_mem _ (List.mem_append_right _ h)) (by decide +kernel))
set_option maxRecDepth 20000 in
theorem gX7_keepsMass_X5_carbonSum : GoodIn wsX7_keepsMass (wsV RX7 138 RX5 yX5_carbonSum wsX5_carbonSum) := goodIn_app (goodIn_of _ (by decide +kernel)) ggX7_keepsMass_X5_carbonSum
theorem dX7_keepsMass_0 : decode cX7_keepsMass 0 = .ok (.aload_n 0, 1) := by decide +kernel
theorem dX7_keepsMass_1 : decode cX7_keepsMass 1 = .ok (.getfield 63, 3) := by decide +kernel
theorem dX7_keepsMass_4 : decode cX7_keepsMass 4 = .ok (.aload_n 0, 1) := by decide +kernel
theorem dX7_keepsMass_5 : decode cX7_keepsMass 5 = .ok (.getfield 12, 3) := by decide +kernel
theorem dX7_keepsMass_8 : decode cX7_keepsMass 8 = .ok (.invokevirtual 134, 3) := by decide +kernel
theorem dX7_keepsMass_11 : decode cX7_keepsMass 11 = .ok (.aload_n 0, 1) := by decide +kernel
theorem dX7_keepsMass_12 : decode cX7_keepsMass 12 = .ok (.getfield 12, 3) := by decide +kernel
theorem dX7_keepsMass_15 : decode cX7_keepsMass 15 = .ok (.invokevirtual 138, 3) := by decide +kernel
theorem dX7_keepsMass_18 : decode cX7_keepsMass 18 = .ok (.iadd, 1) := by decide +kernel
theorem dX7_keepsMass_19 : decode cX7_keepsMass 19 = .ok (.aload_n 0, 1) := by decide +kernel
theorem dX7_keepsMass_20 : decode cX7_keepsMass 20 = .ok (.getfield 12, 3) := by decide +kernel
theorem dX7_keepsMass_23 : decode cX7_keepsMass 23 = .ok (.getfield 141, 3) := by decide +kernel
theorem dX7_keepsMass_26 : decode cX7_keepsMass 26 = .ok (.iadd, 1) := by decide +kernel
theorem dX7_keepsMass_27 : decode cX7_keepsMass 27 = .ok (.aload_n 0, 1) := by decide +kernel
theorem dX7_keepsMass_28 : decode cX7_keepsMass 28 = .ok (.getfield 60, 3) := by decide +kernel
theorem dX7_keepsMass_31 : decode cX7_keepsMass 31 = .ok (.iadd, 1) := by decide +kernel
theorem dX7_keepsMass_32 : decode cX7_keepsMass 32 = .ok (.aload_n 0, 1) := by decide +kernel
theorem dX7_keepsMass_33 : decode cX7_keepsMass 33 = .ok (.getfield 101, 3) := by decide +kernel
theorem dX7_keepsMass_36 : decode cX7_keepsMass 36 = .ok (.iadd, 1) := by decide +kernel
theorem dX7_keepsMass_37 : decode cX7_keepsMass 37 = .ok (.if_icmp .ne 7, 3) := by decide +kernel
theorem dX7_keepsMass_40 : decode cX7_keepsMass 40 = .ok (.iconst 1, 1) := by decide +kernel
theorem dX7_keepsMass_41 : decode cX7_keepsMass 41 = .ok (.goto 4, 3) := by decide +kernel
theorem dX7_keepsMass_44 : decode cX7_keepsMass 44 = .ok (.iconst 0, 1) := by decide +kernel
theorem dX7_keepsMass_45 : decode cX7_keepsMass 45 = .ok (.ireturn, 1) := by decide +kernel
set_option maxRecDepth 20000 in
theorem ggX7_handleCommands_X0_isOver : GoodIn wsX7_handleCommands wsX0_isOver := goodIn_ca (goodIn_r _ [11, 12, 13, 70, 71, 72, 73, 74] (by decide +kernel) (by decide +kernel)) (goodIn_sub (fun _ h => List.mem_cons_of_mem _ (List.mem_append_right _ h)) (by decide +kernel))
set_option maxRecDepth 20000 in
theorem gX7_handleCommands_X0_isOver : GoodIn wsX7_handleCommands (wsV RX7 147 RX0 yX0_isOver wsX0_isOver) := goodIn_app (goodIn_of _ (by decide +kernel)) ggX7_handleCommands_X0_isOver
set_option maxRecDepth 20000 in
theorem ggX7_handleCommands_X3_add : GoodIn wsX7_handleCommands wsX3_add := goodIn_ca (goodIn_r _ [18, 19, 20, 75, 76] (by decide +kernel) (by decide +kernel)) (goodIn_sub (fun _ h => List.mem_cons_of_mem _ (List.mem_append_right _ h)) (by decide +kernel))
set_option maxRecDepth 20000 in
theorem gX7_handleCommands_X3_add : GoodIn wsX7_handleCommands (wsV RX7 151 RX3 yX3_add wsX3_add) := goodIn_app (goodIn_of _ (by decide +kernel)) ggX7_handleCommands_X3_add
set_option maxRecDepth 20000 in
theorem ggX7_handleCommands_X0_hasArrived : GoodIn wsX7_handleCommands wsX0_hasArrived := goodIn_ca (goodIn_r _ [24, 12, 70, 71, 72, 73, 74] (by decide +kernel) (by decide +kernel)) (goodIn_sub (fun _ h => List.mem_cons_of_mem _ (List.mem_append_right _ h)) (by decide +kernel))
set_option maxRecDepth 20000 in
theorem gX7_handleCommands_X0_hasArrived : GoodIn wsX7_handleCommands (wsV RX7 155 RX0 yX0_hasArrived wsX0_hasArrived) := goodIn_app (goodIn_of _ (by decide +kernel)) ggX7_handleCommands_X0_hasArrived
set_option maxRecDepth 20000 in
theorem ggX7_handleCommands_X7_hasContact : GoodIn wsX7_handleCommands wsX7_hasContact := goodIn_r _ [29, 3, 56, 57, 58, 59, 60, 61, 62, 63, 64, 65, 66, 67, 68, 69] (by decide +kernel) (by decide +kernel)
set_option maxRecDepth 20000 in
theorem gX7_handleCommands_X7_hasContact : GoodIn wsX7_handleCommands (wsV RX7 158 RX7 yX7_hasContact wsX7_hasContact) := goodIn_app (goodIn_of _ (by decide +kernel)) ggX7_handleCommands_X7_hasContact
set_option maxRecDepth 20000 in
theorem ggX7_handleCommands_X7_obey : GoodIn wsX7_handleCommands wsX7_obey := goodIn_ca (goodIn_r _ [33, 34, 35, 36, 37, 38, 39, 40, 41, 42, 43, 44, 45, 46, 47, 48, 49, 56, 57, 58, 59, 60, 61, 62, 63, 64, 65, 66, 67, 68, 69, 77, 78, 79, 80, 81, 82, 83, 84, 85] (by decide +kernel) (by decide +kernel)) (goodIn_sub (fun _ h => List.mem_cons_of_mem _ (List.mem_append_right _ h)) (by decide +kernel))
set_option maxRecDepth 20000 in
theorem gX7_handleCommands_X7_obey : GoodIn wsX7_handleCommands (wsV RX7 170 RX7 yX7_obey wsX7_obey) := goodIn_app (goodIn_of _ (by decide +kernel)) ggX7_handleCommands_X7_obey
set_option maxRecDepth 20000 in
theorem ggX7_handleCommands_X0_shift : GoodIn wsX7_handleCommands wsX0_shift := goodIn_ca (goodIn_r _ [53, 54, 55, 12, 13, 70, 71, 72, 73, 74] (by decide +kernel) (by decide +kernel)) (goodIn_sub (fun _ h => List.mem_cons_of_mem _ (List.mem_append_right _ h)) (by decide +kernel))
set_option maxRecDepth 20000 in
theorem gX7_handleCommands_X0_shift : GoodIn wsX7_handleCommands (wsV RX7 174 RX0 yX0_shift wsX0_shift) := goodIn_app (goodIn_of _ (by decide +kernel)) ggX7_handleCommands_X0_shift
theorem dX7_handleCommands_0 : decode cX7_handleCommands 0 = .ok (.iconst 0, 1) := by decide +kernel
theorem dX7_handleCommands_1 : decode cX7_handleCommands 1 = .ok (.istore_n 1, 1) := by decide +kernel
theorem dX7_handleCommands_2 : decode cX7_handleCommands 2 = .ok (.iconst 0, 1) := by decide +kernel
theorem dX7_handleCommands_3 : decode cX7_handleCommands 3 = .ok (.istore_n 2, 1) := by decide +kernel
theorem dX7_handleCommands_4 : decode cX7_handleCommands 4 = .ok (.iload_n 2, 1) := by decide +kernel
theorem dX7_handleCommands_5 : decode cX7_handleCommands 5 = .ok (.aload_n 0, 1) := by decide +kernel
theorem dX7_handleCommands_6 : decode cX7_handleCommands 6 = .ok (.getfield 42, 3) := by decide +kernel
theorem dX7_handleCommands_9 : decode cX7_handleCommands 9 = .ok (.getfield 144, 3) := by decide +kernel
theorem dX7_handleCommands_12 : decode cX7_handleCommands 12 = .ok (.if_icmp .ge 104, 3) := by decide +kernel
theorem dX7_handleCommands_15 : decode cX7_handleCommands 15 = .ok (.aload_n 0, 1) := by decide +kernel
theorem dX7_handleCommands_16 : decode cX7_handleCommands 16 = .ok (.getfield 42, 3) := by decide +kernel
theorem dX7_handleCommands_19 : decode cX7_handleCommands 19 = .ok (.iload_n 2, 1) := by decide +kernel
theorem dX7_handleCommands_20 : decode cX7_handleCommands 20 = .ok (.aload_n 0, 1) := by decide +kernel
theorem dX7_handleCommands_21 : decode cX7_handleCommands 21 = .ok (.getfield 94, 3) := by decide +kernel
theorem dX7_handleCommands_24 : decode cX7_handleCommands 24 = .ok (.invokevirtual 147, 3) := by decide +kernel
theorem dX7_handleCommands_27 : decode cX7_handleCommands 27 = .ok (.ifCond .eq 15, 3) := by decide +kernel
theorem dX7_handleCommands_30 : decode cX7_handleCommands 30 = .ok (.aload_n 0, 1) := by decide +kernel
theorem dX7_handleCommands_31 : decode cX7_handleCommands 31 = .ok (.getfield 71, 3) := by decide +kernel
theorem dX7_handleCommands_34 : decode cX7_handleCommands 34 = .ok (.bipush 120, 2) := by decide +kernel
theorem dX7_handleCommands_36 : decode cX7_handleCommands 36 = .ok (.invokevirtual 151, 3) := by decide +kernel
theorem dX7_handleCommands_39 : decode cX7_handleCommands 39 = .ok (.goto 71, 3) := by decide +kernel
theorem dX7_handleCommands_42 : decode cX7_handleCommands 42 = .ok (.aload_n 0, 1) := by decide +kernel
theorem dX7_handleCommands_43 : decode cX7_handleCommands 43 = .ok (.getfield 42, 3) := by decide +kernel
theorem dX7_handleCommands_46 : decode cX7_handleCommands 46 = .ok (.iload_n 2, 1) := by decide +kernel
theorem dX7_handleCommands_47 : decode cX7_handleCommands 47 = .ok (.aload_n 0, 1) := by decide +kernel
theorem dX7_handleCommands_48 : decode cX7_handleCommands 48 = .ok (.getfield 94, 3) := by decide +kernel
theorem dX7_handleCommands_51 : decode cX7_handleCommands 51 = .ok (.invokevirtual 155, 3) := by decide +kernel
theorem dX7_handleCommands_54 : decode cX7_handleCommands 54 = .ok (.ifCond .eq 44, 3) := by decide +kernel
theorem dX7_handleCommands_57 : decode cX7_handleCommands 57 = .ok (.aload_n 0, 1) := by decide +kernel
theorem dX7_handleCommands_58 : decode cX7_handleCommands 58 = .ok (.invokevirtual 158, 3) := by decide +kernel
theorem dX7_handleCommands_61 : decode cX7_handleCommands 61 = .ok (.ifCond .eq 37, 3) := by decide +kernel
theorem dX7_handleCommands_64 : decode cX7_handleCommands 64 = .ok (.aload_n 0, 1) := by decide +kernel
theorem dX7_handleCommands_65 : decode cX7_handleCommands 65 = .ok (.aload_n 0, 1) := by decide +kernel
theorem dX7_handleCommands_66 : decode cX7_handleCommands 66 = .ok (.getfield 42, 3) := by decide +kernel
theorem dX7_handleCommands_69 : decode cX7_handleCommands 69 = .ok (.getfield 162, 3) := by decide +kernel
theorem dX7_handleCommands_72 : decode cX7_handleCommands 72 = .ok (.iload_n 2, 1) := by decide +kernel
theorem dX7_handleCommands_73 : decode cX7_handleCommands 73 = .ok (.caload, 1) := by decide +kernel
theorem dX7_handleCommands_74 : decode cX7_handleCommands 74 = .ok (.aload_n 0, 1) := by decide +kernel
theorem dX7_handleCommands_75 : decode cX7_handleCommands 75 = .ok (.getfield 42, 3) := by decide +kernel
theorem dX7_handleCommands_78 : decode cX7_handleCommands 78 = .ok (.getfield 166, 3) := by decide +kernel
theorem dX7_handleCommands_81 : decode cX7_handleCommands 81 = .ok (.iload_n 2, 1) := by decide +kernel
theorem dX7_handleCommands_82 : decode cX7_handleCommands 82 = .ok (.iaload, 1) := by decide +kernel
theorem dX7_handleCommands_83 : decode cX7_handleCommands 83 = .ok (.invokevirtual 170, 3) := by decide +kernel
theorem dX7_handleCommands_86 : decode cX7_handleCommands 86 = .ok (.aload_n 0, 1) := by decide +kernel
theorem dX7_handleCommands_87 : decode cX7_handleCommands 87 = .ok (.getfield 71, 3) := by decide +kernel
theorem dX7_handleCommands_90 : decode cX7_handleCommands 90 = .ok (.bipush 99, 2) := by decide +kernel
theorem dX7_handleCommands_92 : decode cX7_handleCommands 92 = .ok (.invokevirtual 151, 3) := by decide +kernel
theorem dX7_handleCommands_95 : decode cX7_handleCommands 95 = .ok (.goto 15, 3) := by decide +kernel
theorem dX7_handleCommands_98 : decode cX7_handleCommands 98 = .ok (.aload_n 0, 1) := by decide +kernel
theorem dX7_handleCommands_99 : decode cX7_handleCommands 99 = .ok (.getfield 42, 3) := by decide +kernel
theorem dX7_handleCommands_102 : decode cX7_handleCommands 102 = .ok (.iload_n 2, 1) := by decide +kernel
theorem dX7_handleCommands_103 : decode cX7_handleCommands 103 = .ok (.iload_n 1, 1) := by decide +kernel
theorem dX7_handleCommands_104 : decode cX7_handleCommands 104 = .ok (.invokevirtual 174, 3) := by decide +kernel
theorem dX7_handleCommands_107 : decode cX7_handleCommands 107 = .ok (.iinc 1 1, 3) := by decide +kernel
theorem dX7_handleCommands_110 : decode cX7_handleCommands 110 = .ok (.iinc 2 1, 3) := by decide +kernel
theorem dX7_handleCommands_113 : decode cX7_handleCommands 113 = .ok (.goto (-109), 3) := by decide +kernel
theorem dX7_handleCommands_116 : decode cX7_handleCommands 116 = .ok (.aload_n 0, 1) := by decide +kernel
theorem dX7_handleCommands_117 : decode cX7_handleCommands 117 = .ok (.getfield 42, 3) := by decide +kernel
theorem dX7_handleCommands_120 : decode cX7_handleCommands 120 = .ok (.iload_n 1, 1) := by decide +kernel
theorem dX7_handleCommands_121 : decode cX7_handleCommands 121 = .ok (.putfield 144, 3) := by decide +kernel
theorem dX7_handleCommands_124 : decode cX7_handleCommands 124 = .ok (.return_, 1) := by decide +kernel
set_option maxRecDepth 20000 in
theorem ggX7_obey_X2_turn : GoodIn wsX7_obey wsX2_turn := goodIn_ca (goodIn_r _ [7, 8, 9, 31, 32, 33, 34, 35] (by decide +kernel) (by decide +kernel)) (goodIn_sub (fun _ h => List.mem_cons_of_mem _ (List.mem_append_right _ h)) (by decide +kernel))
set_option maxRecDepth 20000 in
theorem gX7_obey_X2_turn : GoodIn wsX7_obey (wsV RX7 178 RX2 yX2_turn wsX2_turn) := goodIn_app (goodIn_of _ (by decide +kernel)) ggX7_obey_X2_turn
set_option maxRecDepth 20000 in
theorem ggX7_obey_X4_turn : GoodIn wsX7_obey wsX4_turn := goodIn_ca (goodIn_r _ [14, 15, 16, 36, 37, 38, 39] (by decide +kernel) (by decide +kernel)) (goodIn_sub (fun _ h => List.mem_cons_of_mem _ (List.mem_append_right _ h)) (by decide +kernel))
set_option maxRecDepth 20000 in
theorem gX7_obey_X4_turn : GoodIn wsX7_obey (wsV RX7 182 RX4 yX4_turn wsX4_turn) := goodIn_app (goodIn_of _ (by decide +kernel)) ggX7_obey_X4_turn
theorem dX7_obey_0 : decode cX7_obey 0 = .ok (.iload_n 1, 1) := by decide +kernel
theorem dX7_obey_1 : decode cX7_obey 1 = .ok (.bipush 110, 2) := by decide +kernel
theorem dX7_obey_3 : decode cX7_obey 3 = .ok (.if_icmp .eq 9, 3) := by decide +kernel
theorem dX7_obey_6 : decode cX7_obey 6 = .ok (.iload_n 1, 1) := by decide +kernel
theorem dX7_obey_7 : decode cX7_obey 7 = .ok (.bipush 102, 2) := by decide +kernel
theorem dX7_obey_9 : decode cX7_obey 9 = .ok (.if_icmp .ne 25, 3) := by decide +kernel
theorem dX7_obey_12 : decode cX7_obey 12 = .ok (.aload_n 0, 1) := by decide +kernel
theorem dX7_obey_13 : decode cX7_obey 13 = .ok (.getfield 28, 3) := by decide +kernel
theorem dX7_obey_16 : decode cX7_obey 16 = .ok (.iload_n 2, 1) := by decide +kernel
theorem dX7_obey_17 : decode cX7_obey 17 = .ok (.iload_n 1, 1) := by decide +kernel
theorem dX7_obey_18 : decode cX7_obey 18 = .ok (.bipush 110, 2) := by decide +kernel
theorem dX7_obey_20 : decode cX7_obey 20 = .ok (.if_icmp .ne 7, 3) := by decide +kernel
theorem dX7_obey_23 : decode cX7_obey 23 = .ok (.iconst 1, 1) := by decide +kernel
theorem dX7_obey_24 : decode cX7_obey 24 = .ok (.goto 4, 3) := by decide +kernel
theorem dX7_obey_27 : decode cX7_obey 27 = .ok (.iconst 0, 1) := by decide +kernel
theorem dX7_obey_28 : decode cX7_obey 28 = .ok (.invokevirtual 178, 3) := by decide +kernel
theorem dX7_obey_31 : decode cX7_obey 31 = .ok (.goto 22, 3) := by decide +kernel
theorem dX7_obey_34 : decode cX7_obey 34 = .ok (.aload_n 0, 1) := by decide +kernel
theorem dX7_obey_35 : decode cX7_obey 35 = .ok (.getfield 21, 3) := by decide +kernel
theorem dX7_obey_38 : decode cX7_obey 38 = .ok (.iload_n 2, 1) := by decide +kernel
theorem dX7_obey_39 : decode cX7_obey 39 = .ok (.iload_n 1, 1) := by decide +kernel
theorem dX7_obey_40 : decode cX7_obey 40 = .ok (.bipush 111, 2) := by decide +kernel
theorem dX7_obey_42 : decode cX7_obey 42 = .ok (.if_icmp .ne 7, 3) := by decide +kernel
theorem dX7_obey_45 : decode cX7_obey 45 = .ok (.iconst 1, 1) := by decide +kernel
theorem dX7_obey_46 : decode cX7_obey 46 = .ok (.goto 4, 3) := by decide +kernel
theorem dX7_obey_49 : decode cX7_obey 49 = .ok (.iconst 0, 1) := by decide +kernel
theorem dX7_obey_50 : decode cX7_obey 50 = .ok (.invokevirtual 182, 3) := by decide +kernel
theorem dX7_obey_53 : decode cX7_obey 53 = .ok (.return_, 1) := by decide +kernel
theorem dX7_bringWater_0 : decode cX7_bringWater 0 = .ok (.aload_n 0, 1) := by decide +kernel
theorem dX7_bringWater_1 : decode cX7_bringWater 1 = .ok (.dup, 1) := by decide +kernel
theorem dX7_bringWater_2 : decode cX7_bringWater 2 = .ok (.getfield 60, 3) := by decide +kernel
theorem dX7_bringWater_5 : decode cX7_bringWater 5 = .ok (.iload_n 1, 1) := by decide +kernel
theorem dX7_bringWater_6 : decode cX7_bringWater 6 = .ok (.iadd, 1) := by decide +kernel
theorem dX7_bringWater_7 : decode cX7_bringWater 7 = .ok (.putfield 60, 3) := by decide +kernel
theorem dX7_bringWater_10 : decode cX7_bringWater 10 = .ok (.aload_n 0, 1) := by decide +kernel
theorem dX7_bringWater_11 : decode cX7_bringWater 11 = .ok (.dup, 1) := by decide +kernel
theorem dX7_bringWater_12 : decode cX7_bringWater 12 = .ok (.getfield 63, 3) := by decide +kernel
theorem dX7_bringWater_15 : decode cX7_bringWater 15 = .ok (.iload_n 1, 1) := by decide +kernel
theorem dX7_bringWater_16 : decode cX7_bringWater 16 = .ok (.iadd, 1) := by decide +kernel
theorem dX7_bringWater_17 : decode cX7_bringWater 17 = .ok (.putfield 63, 3) := by decide +kernel
theorem dX7_bringWater_20 : decode cX7_bringWater 20 = .ok (.return_, 1) := by decide +kernel
set_option maxRecDepth 20000 in
theorem ggX7_runDevices_X7_isInSun : GoodIn wsX7_runDevices wsX7_isInSun := goodIn_r _ [20, 21, 43, 44, 45, 46, 47, 48, 49, 50, 51, 52, 53, 54, 55, 56] (by decide +kernel) (by decide +kernel)
set_option maxRecDepth 20000 in
theorem gX7_runDevices_X7_isInSun : GoodIn wsX7_runDevices (wsV RX7 183 RX7 yX7_isInSun wsX7_isInSun) := goodIn_app (goodIn_of _ (by decide +kernel)) ggX7_runDevices_X7_isInSun
set_option maxRecDepth 20000 in
theorem ggX7_runDevices_X2_powerOf : GoodIn wsX7_runDevices wsX2_powerOf := goodIn_r _ [25] (by decide +kernel) (by decide +kernel)
set_option maxRecDepth 20000 in
theorem gX7_runDevices_X2_powerOf : GoodIn wsX7_runDevices (va_wsS RX7 188 yX2_powerOf wsX2_powerOf) := goodIn_app (goodIn_of _ (by decide +kernel)) ggX7_runDevices_X2_powerOf
set_option maxRecDepth 20000 in
theorem ggX7_runDevices_X5_takeCarbon : GoodIn wsX7_runDevices wsX5_takeCarbon := goodIn_ca (goodIn_r _ [30, 31, 32, 13, 14, 15, 33, 34, 35, 29, 36, 37, 62, 63, 64, 65, 66] (by decide +kernel) (by decide +kernel)) (goodIn_sub (fun _ h => List.mem_cons_of_mem _ (List.mem_append_right _ h)) (by decide +kernel))
set_option maxRecDepth 20000 in
theorem gX7_runDevices_X5_takeCarbon : GoodIn wsX7_runDevices (wsV RX7 202 RX5 yX5_takeCarbon wsX5_takeCarbon) := goodIn_app (goodIn_of _ (by decide +kernel)) ggX7_runDevices_X5_takeCarbon
set_option maxRecDepth 20000 in
theorem ggX7_runDevices_X5_addOxygen : GoodIn wsX7_runDevices wsX5_addOxygen := goodIn_ca (goodIn_r _ [41, 42, 33, 34, 35, 29, 36, 37, 62, 63, 64, 65, 66] (by decide +kernel) (by decide +kernel)) (goodIn_sub (fun _ h => List.mem_cons_of_mem _ (List.mem_append_right _ h)) (by decide +kernel))
set_option maxRecDepth 20000 in
theorem gX7_runDevices_X5_addOxygen : GoodIn wsX7_runDevices (wsV RX7 211 RX5 yX5_addOxygen wsX5_addOxygen) := goodIn_app (goodIn_of _ (by decide +kernel)) ggX7_runDevices_X5_addOxygen
theorem dX7_runDevices_0 : decode cX7_runDevices 0 = .ok (.aload_n 0, 1) := by decide +kernel
theorem dX7_runDevices_1 : decode cX7_runDevices 1 = .ok (.getfield 57, 3) := by decide +kernel
theorem dX7_runDevices_4 : decode cX7_runDevices 4 = .ok (.aload_n 0, 1) := by decide +kernel
theorem dX7_runDevices_5 : decode cX7_runDevices 5 = .ok (.invokevirtual 183, 3) := by decide +kernel
theorem dX7_runDevices_8 : decode cX7_runDevices 8 = .ok (.ifCond .eq 10, 3) := by decide +kernel
theorem dX7_runDevices_11 : decode cX7_runDevices 11 = .ok (.aload_n 0, 1) := by decide +kernel
theorem dX7_runDevices_12 : decode cX7_runDevices 12 = .ok (.getfield 53, 3) := by decide +kernel
theorem dX7_runDevices_15 : decode cX7_runDevices 15 = .ok (.goto 4, 3) := by decide +kernel
theorem dX7_runDevices_18 : decode cX7_runDevices 18 = .ok (.iconst 0, 1) := by decide +kernel
theorem dX7_runDevices_19 : decode cX7_runDevices 19 = .ok (.iadd, 1) := by decide +kernel
theorem dX7_runDevices_20 : decode cX7_runDevices 20 = .ok (.istore_n 1, 1) := by decide +kernel
theorem dX7_runDevices_21 : decode cX7_runDevices 21 = .ok (.iconst 0, 1) := by decide +kernel
theorem dX7_runDevices_22 : decode cX7_runDevices 22 = .ok (.istore_n 2, 1) := by decide +kernel
theorem dX7_runDevices_23 : decode cX7_runDevices 23 = .ok (.iload_n 2, 1) := by decide +kernel
theorem dX7_runDevices_24 : decode cX7_runDevices 24 = .ok (.aload_n 0, 1) := by decide +kernel
theorem dX7_runDevices_25 : decode cX7_runDevices 25 = .ok (.getfield 28, 3) := by decide +kernel
theorem dX7_runDevices_28 : decode cX7_runDevices 28 = .ok (.getfield 186, 3) := by decide +kernel
theorem dX7_runDevices_31 : decode cX7_runDevices 31 = .ok (.if_icmp .ge 133, 3) := by decide +kernel
theorem dX7_runDevices_34 : decode cX7_runDevices 34 = .ok (.aload_n 0, 1) := by decide +kernel
theorem dX7_runDevices_35 : decode cX7_runDevices 35 = .ok (.getfield 28, 3) := by decide +kernel
theorem dX7_runDevices_38 : decode cX7_runDevices 38 = .ok (.getfield 187, 3) := by decide +kernel
theorem dX7_runDevices_41 : decode cX7_runDevices 41 = .ok (.iload_n 2, 1) := by decide +kernel
theorem dX7_runDevices_42 : decode cX7_runDevices 42 = .ok (.caload, 1) := by decide +kernel
theorem dX7_runDevices_43 : decode cX7_runDevices 43 = .ok (.istore_n 3, 1) := by decide +kernel
theorem dX7_runDevices_44 : decode cX7_runDevices 44 = .ok (.iload_n 3, 1) := by decide +kernel
theorem dX7_runDevices_45 : decode cX7_runDevices 45 = .ok (.invokestatic 188, 3) := by decide +kernel
theorem dX7_runDevices_48 : decode cX7_runDevices 48 = .ok (.istore 4, 2) := by decide +kernel
theorem dX7_runDevices_50 : decode cX7_runDevices 50 = .ok (.aload_n 0, 1) := by decide +kernel
theorem dX7_runDevices_51 : decode cX7_runDevices 51 = .ok (.getfield 28, 3) := by decide +kernel
theorem dX7_runDevices_54 : decode cX7_runDevices 54 = .ok (.getfield 192, 3) := by decide +kernel
theorem dX7_runDevices_57 : decode cX7_runDevices 57 = .ok (.iload_n 2, 1) := by decide +kernel
theorem dX7_runDevices_58 : decode cX7_runDevices 58 = .ok (.baload, 1) := by decide +kernel
theorem dX7_runDevices_59 : decode cX7_runDevices 59 = .ok (.ifCond .eq 99, 3) := by decide +kernel
theorem dX7_runDevices_62 : decode cX7_runDevices 62 = .ok (.iload_n 2, 1) := by decide +kernel
theorem dX7_runDevices_63 : decode cX7_runDevices 63 = .ok (.aload_n 0, 1) := by decide +kernel
theorem dX7_runDevices_64 : decode cX7_runDevices 64 = .ok (.getfield 28, 3) := by decide +kernel
theorem dX7_runDevices_67 : decode cX7_runDevices 67 = .ok (.getfield 196, 3) := by decide +kernel
theorem dX7_runDevices_70 : decode cX7_runDevices 70 = .ok (.if_icmp .eq 88, 3) := by decide +kernel
theorem dX7_runDevices_73 : decode cX7_runDevices 73 = .ok (.iload_n 1, 1) := by decide +kernel
theorem dX7_runDevices_74 : decode cX7_runDevices 74 = .ok (.iload 4, 2) := by decide +kernel
theorem dX7_runDevices_76 : decode cX7_runDevices 76 = .ok (.if_icmp .lt 82, 3) := by decide +kernel
theorem dX7_runDevices_79 : decode cX7_runDevices 79 = .ok (.iload_n 1, 1) := by decide +kernel
theorem dX7_runDevices_80 : decode cX7_runDevices 80 = .ok (.iload 4, 2) := by decide +kernel
theorem dX7_runDevices_82 : decode cX7_runDevices 82 = .ok (.isub, 1) := by decide +kernel
theorem dX7_runDevices_83 : decode cX7_runDevices 83 = .ok (.istore_n 1, 1) := by decide +kernel
theorem dX7_runDevices_84 : decode cX7_runDevices 84 = .ok (.iload_n 3, 1) := by decide +kernel
theorem dX7_runDevices_85 : decode cX7_runDevices 85 = .ok (.bipush 115, 2) := by decide +kernel
theorem dX7_runDevices_87 : decode cX7_runDevices 87 = .ok (.if_icmp .ne 32, 3) := by decide +kernel
theorem dX7_runDevices_90 : decode cX7_runDevices 90 = .ok (.aload_n 0, 1) := by decide +kernel
theorem dX7_runDevices_91 : decode cX7_runDevices 91 = .ok (.dup, 1) := by decide +kernel
theorem dX7_runDevices_92 : decode cX7_runDevices 92 = .ok (.getfield 101, 3) := by decide +kernel
theorem dX7_runDevices_95 : decode cX7_runDevices 95 = .ok (.aload_n 0, 1) := by decide +kernel
theorem dX7_runDevices_96 : decode cX7_runDevices 96 = .ok (.getfield 12, 3) := by decide +kernel
theorem dX7_runDevices_99 : decode cX7_runDevices 99 = .ok (.aload_n 0, 1) := by decide +kernel
theorem dX7_runDevices_100 : decode cX7_runDevices 100 = .ok (.getfield 28, 3) := by decide +kernel
theorem dX7_runDevices_103 : decode cX7_runDevices 103 = .ok (.getfield 199, 3) := by decide +kernel
theorem dX7_runDevices_106 : decode cX7_runDevices 106 = .ok (.iload_n 2, 1) := by decide +kernel
theorem dX7_runDevices_107 : decode cX7_runDevices 107 = .ok (.iaload, 1) := by decide +kernel
theorem dX7_runDevices_108 : decode cX7_runDevices 108 = .ok (.iconst 4, 1) := by decide +kernel
theorem dX7_runDevices_109 : decode cX7_runDevices 109 = .ok (.invokevirtual 202, 3) := by decide +kernel
theorem dX7_runDevices_112 : decode cX7_runDevices 112 = .ok (.iadd, 1) := by decide +kernel
theorem dX7_runDevices_113 : decode cX7_runDevices 113 = .ok (.putfield 101, 3) := by decide +kernel
theorem dX7_runDevices_116 : decode cX7_runDevices 116 = .ok (.goto 42, 3) := by decide +kernel
theorem dX7_runDevices_119 : decode cX7_runDevices 119 = .ok (.iload_n 3, 1) := by decide +kernel
theorem dX7_runDevices_120 : decode cX7_runDevices 120 = .ok (.bipush 101, 2) := by decide +kernel
theorem dX7_runDevices_122 : decode cX7_runDevices 122 = .ok (.if_icmp .ne 36, 3) := by decide +kernel
theorem dX7_runDevices_125 : decode cX7_runDevices 125 = .ok (.aload_n 0, 1) := by decide +kernel
theorem dX7_runDevices_126 : decode cX7_runDevices 126 = .ok (.dup, 1) := by decide +kernel
theorem dX7_runDevices_127 : decode cX7_runDevices 127 = .ok (.getfield 60, 3) := by decide +kernel
theorem dX7_runDevices_130 : decode cX7_runDevices 130 = .ok (.aload_n 0, 1) := by decide +kernel
theorem dX7_runDevices_131 : decode cX7_runDevices 131 = .ok (.getfield 12, 3) := by decide +kernel
theorem dX7_runDevices_134 : decode cX7_runDevices 134 = .ok (.aload_n 0, 1) := by decide +kernel
theorem dX7_runDevices_135 : decode cX7_runDevices 135 = .ok (.getfield 28, 3) := by decide +kernel
theorem dX7_runDevices_138 : decode cX7_runDevices 138 = .ok (.getfield 199, 3) := by decide +kernel
theorem dX7_runDevices_141 : decode cX7_runDevices 141 = .ok (.iload_n 2, 1) := by decide +kernel
theorem dX7_runDevices_142 : decode cX7_runDevices 142 = .ok (.iaload, 1) := by decide +kernel
theorem dX7_runDevices_143 : decode cX7_runDevices 143 = .ok (.iconst 3, 1) := by decide +kernel
theorem dX7_runDevices_144 : decode cX7_runDevices 144 = .ok (.aload_n 0, 1) := by decide +kernel
theorem dX7_runDevices_145 : decode cX7_runDevices 145 = .ok (.getfield 60, 3) := by decide +kernel
theorem dX7_runDevices_148 : decode cX7_runDevices 148 = .ok (.invokestatic 206, 3) := by decide +kernel
theorem dX7_runDevices_151 : decode cX7_runDevices 151 = .ok (.invokevirtual 211, 3) := by decide +kernel
theorem dX7_runDevices_154 : decode cX7_runDevices 154 = .ok (.isub, 1) := by decide +kernel
theorem dX7_runDevices_155 : decode cX7_runDevices 155 = .ok (.putfield 60, 3) := by decide +kernel
theorem dX7_runDevices_158 : decode cX7_runDevices 158 = .ok (.iinc 2 1, 3) := by decide +kernel
theorem dX7_runDevices_161 : decode cX7_runDevices 161 = .ok (.goto (-138), 3) := by decide +kernel
theorem dX7_runDevices_164 : decode cX7_runDevices 164 = .ok (.aload_n 0, 1) := by decide +kernel
theorem dX7_runDevices_165 : decode cX7_runDevices 165 = .ok (.iload_n 1, 1) := by decide +kernel
theorem dX7_runDevices_166 : decode cX7_runDevices 166 = .ok (.sipush 200, 3) := by decide +kernel
theorem dX7_runDevices_169 : decode cX7_runDevices 169 = .ok (.invokestatic 206, 3) := by decide +kernel
theorem dX7_runDevices_172 : decode cX7_runDevices 172 = .ok (.putfield 57, 3) := by decide +kernel
theorem dX7_runDevices_175 : decode cX7_runDevices 175 = .ok (.return_, 1) := by decide +kernel
set_option maxRecDepth 20000 in
theorem ggX7_levelRooms_X5_level : GoodIn wsX7_levelRooms wsX5_level := goodIn_ca (goodIn_r _ [11, 12, 13, 14, 15, 16, 10, 17, 18, 37, 38, 39, 40, 41] (by decide +kernel) (by decide +kernel)) (goodIn_sub (fun _ h => List.mem_cons_of_mem _ (List.mem_append_right _ h)) (by decide +kernel))
set_option maxRecDepth 20000 in
theorem gX7_levelRooms_X5_level : GoodIn wsX7_levelRooms (wsV RX7 224 RX5 yX5_level wsX5_level) := goodIn_app (goodIn_of _ (by decide +kernel)) ggX7_levelRooms_X5_level
theorem dX7_levelRooms_0 : decode cX7_levelRooms 0 = .ok (.iconst 0, 1) := by decide +kernel
theorem dX7_levelRooms_1 : decode cX7_levelRooms 1 = .ok (.istore_n 1, 1) := by decide +kernel
theorem dX7_levelRooms_2 : decode cX7_levelRooms 2 = .ok (.iload_n 1, 1) := by decide +kernel
theorem dX7_levelRooms_3 : decode cX7_levelRooms 3 = .ok (.aload_n 0, 1) := by decide +kernel
theorem dX7_levelRooms_4 : decode cX7_levelRooms 4 = .ok (.getfield 21, 3) := by decide +kernel
theorem dX7_levelRooms_7 : decode cX7_levelRooms 7 = .ok (.getfield 214, 3) := by decide +kernel
theorem dX7_levelRooms_10 : decode cX7_levelRooms 10 = .ok (.if_icmp .ge 46, 3) := by decide +kernel
theorem dX7_levelRooms_13 : decode cX7_levelRooms 13 = .ok (.aload_n 0, 1) := by decide +kernel
theorem dX7_levelRooms_14 : decode cX7_levelRooms 14 = .ok (.getfield 21, 3) := by decide +kernel
theorem dX7_levelRooms_17 : decode cX7_levelRooms 17 = .ok (.getfield 215, 3) := by decide +kernel
theorem dX7_levelRooms_20 : decode cX7_levelRooms 20 = .ok (.iload_n 1, 1) := by decide +kernel
theorem dX7_levelRooms_21 : decode cX7_levelRooms 21 = .ok (.baload, 1) := by decide +kernel
theorem dX7_levelRooms_22 : decode cX7_levelRooms 22 = .ok (.ifCond .eq 28, 3) := by decide +kernel
theorem dX7_levelRooms_25 : decode cX7_levelRooms 25 = .ok (.aload_n 0, 1) := by decide +kernel
theorem dX7_levelRooms_26 : decode cX7_levelRooms 26 = .ok (.getfield 12, 3) := by decide +kernel
theorem dX7_levelRooms_29 : decode cX7_levelRooms 29 = .ok (.aload_n 0, 1) := by decide +kernel
theorem dX7_levelRooms_30 : decode cX7_levelRooms 30 = .ok (.getfield 21, 3) := by decide +kernel
theorem dX7_levelRooms_33 : decode cX7_levelRooms 33 = .ok (.getfield 218, 3) := by decide +kernel
theorem dX7_levelRooms_36 : decode cX7_levelRooms 36 = .ok (.iload_n 1, 1) := by decide +kernel
theorem dX7_levelRooms_37 : decode cX7_levelRooms 37 = .ok (.iaload, 1) := by decide +kernel
theorem dX7_levelRooms_38 : decode cX7_levelRooms 38 = .ok (.aload_n 0, 1) := by decide +kernel
theorem dX7_levelRooms_39 : decode cX7_levelRooms 39 = .ok (.getfield 21, 3) := by decide +kernel
theorem dX7_levelRooms_42 : decode cX7_levelRooms 42 = .ok (.getfield 221, 3) := by decide +kernel
theorem dX7_levelRooms_45 : decode cX7_levelRooms 45 = .ok (.iload_n 1, 1) := by decide +kernel
theorem dX7_levelRooms_46 : decode cX7_levelRooms 46 = .ok (.iaload, 1) := by decide +kernel
theorem dX7_levelRooms_47 : decode cX7_levelRooms 47 = .ok (.invokevirtual 224, 3) := by decide +kernel
theorem dX7_levelRooms_50 : decode cX7_levelRooms 50 = .ok (.iinc 1 1, 3) := by decide +kernel
theorem dX7_levelRooms_53 : decode cX7_levelRooms 53 = .ok (.goto (-51), 3) := by decide +kernel
theorem dX7_levelRooms_56 : decode cX7_levelRooms 56 = .ok (.return_, 1) := by decide +kernel
set_option maxRecDepth 20000 in
theorem ggX7_beginSafeMode_X2_darken : GoodIn wsX7_beginSafeMode wsX2_darken := goodIn_ca (goodIn_r _ [11, 12, 13, 14, 48, 49, 50, 51, 52] (by decide +kernel) (by decide +kernel)) (goodIn_sub (fun _ h => List.mem_cons_of_mem _ (List.mem_append_right _ h)) (by decide +kernel))
set_option maxRecDepth 20000 in
theorem gX7_beginSafeMode_X2_darken : GoodIn wsX7_beginSafeMode (wsV RX7 227 RX2 yX2_darken wsX2_darken) := goodIn_app (goodIn_of _ (by decide +kernel)) ggX7_beginSafeMode_X2_darken
set_option maxRecDepth 20000 in
theorem ggX7_beginSafeMode_X1_stopWork : GoodIn wsX7_beginSafeMode wsX1_stopWork := goodIn_ca (goodIn_r _ [19, 20, 21, 53, 54, 55, 56, 57, 58] (by decide +kernel) (by decide +kernel)) (goodIn_sub (fun _ h => List.mem_cons_of_mem _ (List.mem_append_right _ h)) (by decide +kernel))
set_option maxRecDepth 20000 in
theorem gX7_beginSafeMode_X1_stopWork : GoodIn wsX7_beginSafeMode (wsV RX7 230 RX1 yX1_stopWork wsX1_stopWork) := goodIn_app (goodIn_of _ (by decide +kernel)) ggX7_beginSafeMode_X1_stopWork
set_option maxRecDepth 20000 in
theorem ggX7_beginSafeMode_X3_add : GoodIn wsX7_beginSafeMode wsX3_add := goodIn_ca (goodIn_r _ [26, 27, 28, 59, 60] (by decide +kernel) (by decide +kernel)) (goodIn_sub (fun _ h => List.mem_cons_of_mem _ (List.mem_append_right _ h)) (by decide +kernel))
set_option maxRecDepth 20000 in
theorem gX7_beginSafeMode_X3_add : GoodIn wsX7_beginSafeMode (wsV RX7 151 RX3 yX3_add wsX3_add) := goodIn_app (goodIn_of _ (by decide +kernel)) ggX7_beginSafeMode_X3_add
theorem dX7_beginSafeMode_0 : decode cX7_beginSafeMode 0 = .ok (.aload_n 0, 1) := by decide +kernel
theorem dX7_beginSafeMode_1 : decode cX7_beginSafeMode 1 = .ok (.iconst 1, 1) := by decide +kernel
theorem dX7_beginSafeMode_2 : decode cX7_beginSafeMode 2 = .ok (.putfield 97, 3) := by decide +kernel
theorem dX7_beginSafeMode_5 : decode cX7_beginSafeMode 5 = .ok (.aload_n 0, 1) := by decide +kernel
theorem dX7_beginSafeMode_6 : decode cX7_beginSafeMode 6 = .ok (.getfield 28, 3) := by decide +kernel
theorem dX7_beginSafeMode_9 : decode cX7_beginSafeMode 9 = .ok (.invokevirtual 227, 3) := by decide +kernel
theorem dX7_beginSafeMode_12 : decode cX7_beginSafeMode 12 = .ok (.aload_n 0, 1) := by decide +kernel
theorem dX7_beginSafeMode_13 : decode cX7_beginSafeMode 13 = .ok (.getfield 35, 3) := by decide +kernel
theorem dX7_beginSafeMode_16 : decode cX7_beginSafeMode 16 = .ok (.invokevirtual 230, 3) := by decide +kernel
theorem dX7_beginSafeMode_19 : decode cX7_beginSafeMode 19 = .ok (.aload_n 0, 1) := by decide +kernel
theorem dX7_beginSafeMode_20 : decode cX7_beginSafeMode 20 = .ok (.getfield 42, 3) := by decide +kernel
theorem dX7_beginSafeMode_23 : decode cX7_beginSafeMode 23 = .ok (.iconst 0, 1) := by decide +kernel
theorem dX7_beginSafeMode_24 : decode cX7_beginSafeMode 24 = .ok (.putfield 144, 3) := by decide +kernel
theorem dX7_beginSafeMode_27 : decode cX7_beginSafeMode 27 = .ok (.aload_n 0, 1) := by decide +kernel
theorem dX7_beginSafeMode_28 : decode cX7_beginSafeMode 28 = .ok (.getfield 71, 3) := by decide +kernel
theorem dX7_beginSafeMode_31 : decode cX7_beginSafeMode 31 = .ok (.bipush 115, 2) := by decide +kernel
theorem dX7_beginSafeMode_33 : decode cX7_beginSafeMode 33 = .ok (.invokevirtual 151, 3) := by decide +kernel
theorem dX7_beginSafeMode_36 : decode cX7_beginSafeMode 36 = .ok (.return_, 1) := by decide +kernel
theorem dX7_isInSun_0 : decode cX7_isInSun 0 = .ok (.aload_n 0, 1) := by decide +kernel
theorem dX7_isInSun_1 : decode cX7_isInSun 1 = .ok (.getfield 94, 3) := by decide +kernel
theorem dX7_isInSun_4 : decode cX7_isInSun 4 = .ok (.bipush 90, 2) := by decide +kernel
theorem dX7_isInSun_6 : decode cX7_isInSun 6 = .ok (.irem, 1) := by decide +kernel
theorem dX7_isInSun_7 : decode cX7_isInSun 7 = .ok (.bipush 60, 2) := by decide +kernel
theorem dX7_isInSun_9 : decode cX7_isInSun 9 = .ok (.if_icmp .ge 7, 3) := by decide +kernel
theorem dX7_isInSun_12 : decode cX7_isInSun 12 = .ok (.iconst 1, 1) := by decide +kernel
theorem dX7_isInSun_13 : decode cX7_isInSun 13 = .ok (.goto 4, 3) := by decide +kernel
theorem dX7_isInSun_16 : decode cX7_isInSun 16 = .ok (.iconst 0, 1) := by decide +kernel
theorem dX7_isInSun_17 : decode cX7_isInSun 17 = .ok (.ireturn, 1) := by decide +kernel
theorem dX7_hasContact_0 : decode cX7_hasContact 0 = .ok (.aload_n 0, 1) := by decide +kernel
theorem dX7_hasContact_1 : decode cX7_hasContact 1 = .ok (.getfield 94, 3) := by decide +kernel
theorem dX7_hasContact_4 : decode cX7_hasContact 4 = .ok (.bipush 90, 2) := by decide +kernel
theorem dX7_hasContact_6 : decode cX7_hasContact 6 = .ok (.irem, 1) := by decide +kernel
theorem dX7_hasContact_7 : decode cX7_hasContact 7 = .ok (.istore_n 1, 1) := by decide +kernel
theorem dX7_hasContact_8 : decode cX7_hasContact 8 = .ok (.iload_n 1, 1) := by decide +kernel
theorem dX7_hasContact_9 : decode cX7_hasContact 9 = .ok (.bipush 10, 2) := by decide +kernel
theorem dX7_hasContact_11 : decode cX7_hasContact 11 = .ok (.if_icmp .lt 13, 3) := by decide +kernel
theorem dX7_hasContact_14 : decode cX7_hasContact 14 = .ok (.iload_n 1, 1) := by decide +kernel
theorem dX7_hasContact_15 : decode cX7_hasContact 15 = .ok (.bipush 49, 2) := by decide +kernel
theorem dX7_hasContact_17 : decode cX7_hasContact 17 = .ok (.if_icmp .gt 7, 3) := by decide +kernel
theorem dX7_hasContact_20 : decode cX7_hasContact 20 = .ok (.iconst 1, 1) := by decide +kernel
theorem dX7_hasContact_21 : decode cX7_hasContact 21 = .ok (.goto 4, 3) := by decide +kernel
theorem dX7_hasContact_24 : decode cX7_hasContact 24 = .ok (.iconst 0, 1) := by decide +kernel
theorem dX7_hasContact_25 : decode cX7_hasContact 25 = .ok (.ireturn, 1) := by decide +kernel
set_option maxRecDepth 20000 in
theorem ggX8_init_X7_init : GoodIn wsX8_init wsX7_init := goodIn_r _ [11, 12, 2, 3, 13, 14, 15, 16, 17, 18, 19, 20, 21, 22, 23, 24, 25, 26, 27, 28, 29, 30, 31, 32, 33, 34, 35, 36, 37, 38, 39, 40, 41, 42, 43, 44, 45, 46, 47, 48, 49, 50, 51, 52, 53, 54, 55, 56, 57, 58, 59, 60, 61, 62, 63, 64, 65, 66, 67, 68, 69, 70, 71, 72, 73, 74, 75, 76, 77, 78, 79, 80, 81, 82, 83, 84, 85, 86, 87, 88, 89, 90, 91, 92, 93, 110, 111, 112, 113, 114, 94, 95, 96, 97, 98, 99, 100, 101, 102, 103, 104, 105, 106, 107, 115, 116, 117, 118, 119, 120, 121, 122, 123, 124, 125, 126, 127, 128, 129, 130, 131, 132, 133, 134, 135, 136, 137, 138, 139, 140, 141, 142] (by decide +kernel) (by decide +kernel)
set_option maxRecDepth 20000 in
theorem gX8_init_X7_init : GoodIn wsX8_init (wsX7_init) := ggX8_init_X7_init
