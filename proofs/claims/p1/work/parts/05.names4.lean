theorem dX14_evens_29 : decode cX14_evens 29 = .ok (.invokevirtual 144, 3) := by decide +kernel
theorem dX14_evens_32 : decode cX14_evens 32 = .ok (.isub, 1) := by decide +kernel
theorem dX14_evens_33 : decode cX14_evens 33 = .ok (.iconst 2, 1) := by decide +kernel
theorem dX14_evens_34 : decode cX14_evens 34 = .ok (.idiv, 1) := by decide +kernel
theorem dX14_evens_35 : decode cX14_evens 35 = .ok (.istore_n 3, 1) := by decide +kernel
theorem dX14_evens_36 : decode cX14_evens 36 = .ok (.aload_n 0, 1) := by decide +kernel
theorem dX14_evens_37 : decode cX14_evens 37 = .ok (.aload_n 1, 1) := by decide +kernel
theorem dX14_evens_38 : decode cX14_evens 38 = .ok (.aload_n 2, 1) := by decide +kernel
theorem dX14_evens_39 : decode cX14_evens 39 = .ok (.getfield 82, 3) := by decide +kernel
theorem dX14_evens_42 : decode cX14_evens 42 = .ok (.iload_n 3, 1) := by decide +kernel
theorem dX14_evens_43 : decode cX14_evens 43 = .ok (.ineg, 1) := by decide +kernel
theorem dX14_evens_44 : decode cX14_evens 44 = .ok (.invokevirtual 171, 3) := by decide +kernel
theorem dX14_evens_47 : decode cX14_evens 47 = .ok (.aload_n 0, 1) := by decide +kernel
theorem dX14_evens_48 : decode cX14_evens 48 = .ok (.aload_n 1, 1) := by decide +kernel
theorem dX14_evens_49 : decode cX14_evens 49 = .ok (.aload_n 2, 1) := by decide +kernel
theorem dX14_evens_50 : decode cX14_evens 50 = .ok (.getfield 85, 3) := by decide +kernel
theorem dX14_evens_53 : decode cX14_evens 53 = .ok (.iload_n 3, 1) := by decide +kernel
theorem dX14_evens_54 : decode cX14_evens 54 = .ok (.invokevirtual 171, 3) := by decide +kernel
theorem dX14_evens_57 : decode cX14_evens 57 = .ok (.return_, 1) := by decide +kernel
set_option maxRecDepth 20000 in
theorem ggX14_breathes_Jx4a65c_get_915e3 : GoodIn wsX14_breathes wsJx4a65c_get_915e3 := goodIn_r _ [17, 18, 19, 20, 21, 22, 23, 24, 25, 26, 27, 28, 29, 16, 30, 31, 143, 144, 145] (by decide +kernel) (by decide +kernel)
set_option maxRecDepth 20000 in
theorem gX14_breathes_Jx4a65c_get_915e3_f138Jx4a65c : GoodIn wsX14_breathes (va_wsF RX14 138 RJx4a65c ⟨"java/util/List", "get", "(I)Ljava/lang/Object;"⟩ yJx4a65c_get_915e3 wsJx4a65c_get_915e3) := goodIn_app (goodIn_of _ (by decide +kernel)) ggX14_breathes_Jx4a65c_get_915e3
set_option maxRecDepth 20000 in
theorem ggX14_breathes_J6_intValue_8abf5 : GoodIn wsX14_breathes wsJ6_intValue_8abf5 := goodIn_r _ [36, 37, 146] (by decide +kernel) (by decide +kernel)
set_option maxRecDepth 20000 in
theorem gX14_breathes_J6_intValue_8abf5 : GoodIn wsX14_breathes (wsV RX14 144 RJ6 yJ6_intValue_8abf5 wsJ6_intValue_8abf5) := goodIn_app (goodIn_of _ (by decide +kernel)) ggX14_breathes_J6_intValue_8abf5
set_option maxRecDepth 20000 in
theorem ggX14_breathes_X14_add : GoodIn wsX14_breathes wsX14_add := goodIn_r _ [42, 5, 13, 14, 15, 16, 17, 18, 19, 20, 21, 22, 23, 24, 25, 26, 27, 28, 29, 30, 31, 32, 33, 34, 35, 36, 37, 43, 44, 45, 46, 47, 48, 49, 50, 51, 52, 53, 54, 55, 56, 57, 58, 59, 60, 61, 62, 63, 143, 144, 145, 146] (by decide +kernel) (by decide +kernel)
set_option maxRecDepth 20000 in
theorem gX14_breathes_X14_add : GoodIn wsX14_breathes (wsV RX14 171 RX14 yX14_add wsX14_add) := goodIn_app (goodIn_of _ (by decide +kernel)) ggX14_breathes_X14_add
set_option maxRecDepth 20000 in
theorem ggX14_breathes_J11_valueOf_f0083 : GoodIn wsX14_breathes wsJ11_valueOf_f0083 := goodIn_r _ [67, 68, 69, 70, 66, 71, 72, 73, 74, 58, 59, 75, 147] (by decide +kernel) (by decide +kernel)
set_option maxRecDepth 20000 in
theorem gX14_breathes_J11_valueOf_f0083 : GoodIn wsX14_breathes (va_wsS RX14 199 yJ11_valueOf_f0083 wsJ11_valueOf_f0083) := goodIn_app (goodIn_of _ (by decide +kernel)) ggX14_breathes_J11_valueOf_f0083
set_option maxRecDepth 20000 in
theorem ggX14_breathes_Jx4a65c_add_9ea2d : GoodIn wsX14_breathes wsJx4a65c_add_9ea2d := goodIn_r _ [79, 80, 81, 31, 18, 82, 83, 84, 16, 85, 86, 87, 88, 89, 90, 91, 92, 93, 94, 95, 96, 8, 97, 98, 99, 100, 101, 102, 103, 104, 105, 106, 107, 108, 109, 110, 111, 112, 113, 114, 115, 116, 117, 118, 119, 120, 121, 7, 9, 122, 123, 124, 125, 143, 144, 145] (by decide +kernel) (by decide +kernel)
set_option maxRecDepth 20000 in
theorem gX14_breathes_Jx4a65c_add_9ea2d_f94Jx4a65c : GoodIn wsX14_breathes (va_wsF RX14 94 RJx4a65c ⟨"java/util/List", "add", "(Ljava/lang/Object;)Z"⟩ yJx4a65c_add_9ea2d wsJx4a65c_add_9ea2d) := goodIn_app (goodIn_of _ (by decide +kernel)) ggX14_breathes_Jx4a65c_add_9ea2d
theorem dX14_breathes_0 : decode cX14_breathes 0 = .ok (.aload_n 1, 1) := by decide +kernel
theorem dX14_breathes_1 : decode cX14_breathes 1 = .ok (.getfield 119, 3) := by decide +kernel
theorem dX14_breathes_4 : decode cX14_breathes 4 = .ok (.bipush 119, 2) := by decide +kernel
theorem dX14_breathes_6 : decode cX14_breathes 6 = .ok (.if_icmp .ne 7, 3) := by decide +kernel
theorem dX14_breathes_9 : decode cX14_breathes 9 = .ok (.iconst 2, 1) := by decide +kernel
theorem dX14_breathes_10 : decode cX14_breathes 10 = .ok (.goto 24, 3) := by decide +kernel
theorem dX14_breathes_13 : decode cX14_breathes 13 = .ok (.aload_n 1, 1) := by decide +kernel
theorem dX14_breathes_14 : decode cX14_breathes 14 = .ok (.getfield 119, 3) := by decide +kernel
theorem dX14_breathes_17 : decode cX14_breathes 17 = .ok (.bipush 114, 2) := by decide +kernel
theorem dX14_breathes_19 : decode cX14_breathes 19 = .ok (.if_icmp .ne 7, 3) := by decide +kernel
theorem dX14_breathes_22 : decode cX14_breathes 22 = .ok (.iconst 1, 1) := by decide +kernel
theorem dX14_breathes_23 : decode cX14_breathes 23 = .ok (.goto 11, 3) := by decide +kernel
theorem dX14_breathes_26 : decode cX14_breathes 26 = .ok (.iconst 1, 1) := by decide +kernel
theorem dX14_breathes_27 : decode cX14_breathes 27 = .ok (.aload_n 0, 1) := by decide +kernel
theorem dX14_breathes_28 : decode cX14_breathes 28 = .ok (.getfield 52, 3) := by decide +kernel
theorem dX14_breathes_31 : decode cX14_breathes 31 = .ok (.iconst 2, 1) := by decide +kernel
theorem dX14_breathes_32 : decode cX14_breathes 32 = .ok (.irem, 1) := by decide +kernel
theorem dX14_breathes_33 : decode cX14_breathes 33 = .ok (.isub, 1) := by decide +kernel
theorem dX14_breathes_34 : decode cX14_breathes 34 = .ok (.istore_n 2, 1) := by decide +kernel
theorem dX14_breathes_35 : decode cX14_breathes 35 = .ok (.iload_n 2, 1) := by decide +kernel
theorem dX14_breathes_36 : decode cX14_breathes 36 = .ok (.aload_n 0, 1) := by decide +kernel
theorem dX14_breathes_37 : decode cX14_breathes 37 = .ok (.getfield 12, 3) := by decide +kernel
theorem dX14_breathes_40 : decode cX14_breathes 40 = .ok (.aload_n 1, 1) := by decide +kernel
theorem dX14_breathes_41 : decode cX14_breathes 41 = .ok (.getfield 115, 3) := by decide +kernel
theorem dX14_breathes_44 : decode cX14_breathes 44 = .ok (.invokeinterface 138 2, 5) := by decide +kernel
theorem dX14_breathes_49 : decode cX14_breathes 49 = .ok (.checkcast 142, 3) := by decide +kernel
theorem dX14_breathes_52 : decode cX14_breathes 52 = .ok (.invokevirtual 144, 3) := by decide +kernel
theorem dX14_breathes_55 : decode cX14_breathes 55 = .ok (.invokestatic 165, 3) := by decide +kernel
theorem dX14_breathes_58 : decode cX14_breathes 58 = .ok (.istore_n 3, 1) := by decide +kernel
theorem dX14_breathes_59 : decode cX14_breathes 59 = .ok (.aload_n 0, 1) := by decide +kernel
theorem dX14_breathes_60 : decode cX14_breathes 60 = .ok (.aload_n 0, 1) := by decide +kernel
theorem dX14_breathes_61 : decode cX14_breathes 61 = .ok (.getfield 12, 3) := by decide +kernel
theorem dX14_breathes_64 : decode cX14_breathes 64 = .ok (.aload_n 1, 1) := by decide +kernel
theorem dX14_breathes_65 : decode cX14_breathes 65 = .ok (.getfield 115, 3) := by decide +kernel
theorem dX14_breathes_68 : decode cX14_breathes 68 = .ok (.iload_n 3, 1) := by decide +kernel
theorem dX14_breathes_69 : decode cX14_breathes 69 = .ok (.ineg, 1) := by decide +kernel
theorem dX14_breathes_70 : decode cX14_breathes 70 = .ok (.invokevirtual 171, 3) := by decide +kernel
theorem dX14_breathes_73 : decode cX14_breathes 73 = .ok (.aload_n 0, 1) := by decide +kernel
theorem dX14_breathes_74 : decode cX14_breathes 74 = .ok (.aload_n 0, 1) := by decide +kernel
theorem dX14_breathes_75 : decode cX14_breathes 75 = .ok (.getfield 18, 3) := by decide +kernel
theorem dX14_breathes_78 : decode cX14_breathes 78 = .ok (.aload_n 1, 1) := by decide +kernel
theorem dX14_breathes_79 : decode cX14_breathes 79 = .ok (.getfield 115, 3) := by decide +kernel
theorem dX14_breathes_82 : decode cX14_breathes 82 = .ok (.iload_n 3, 1) := by decide +kernel
theorem dX14_breathes_83 : decode cX14_breathes 83 = .ok (.invokevirtual 171, 3) := by decide +kernel
theorem dX14_breathes_86 : decode cX14_breathes 86 = .ok (.aload_n 1, 1) := by decide +kernel
theorem dX14_breathes_87 : decode cX14_breathes 87 = .ok (.iload_n 3, 1) := by decide +kernel
theorem dX14_breathes_88 : decode cX14_breathes 88 = .ok (.iload_n 2, 1) := by decide +kernel
theorem dX14_breathes_89 : decode cX14_breathes 89 = .ok (.if_icmp .ge 12, 3) := by decide +kernel
theorem dX14_breathes_92 : decode cX14_breathes 92 = .ok (.aload_n 1, 1) := by decide +kernel
theorem dX14_breathes_93 : decode cX14_breathes 93 = .ok (.getfield 122, 3) := by decide +kernel
theorem dX14_breathes_96 : decode cX14_breathes 96 = .ok (.iconst 1, 1) := by decide +kernel
theorem dX14_breathes_97 : decode cX14_breathes 97 = .ok (.iadd, 1) := by decide +kernel
theorem dX14_breathes_98 : decode cX14_breathes 98 = .ok (.goto 4, 3) := by decide +kernel
theorem dX14_breathes_101 : decode cX14_breathes 101 = .ok (.iconst 0, 1) := by decide +kernel
theorem dX14_breathes_102 : decode cX14_breathes 102 = .ok (.putfield 122, 3) := by decide +kernel
theorem dX14_breathes_105 : decode cX14_breathes 105 = .ok (.aload_n 1, 1) := by decide +kernel
theorem dX14_breathes_106 : decode cX14_breathes 106 = .ok (.getfield 122, 3) := by decide +kernel
theorem dX14_breathes_109 : decode cX14_breathes 109 = .ok (.iconst 3, 1) := by decide +kernel
theorem dX14_breathes_110 : decode cX14_breathes 110 = .ok (.if_icmp .ge 4, 3) := by decide +kernel
theorem dX14_breathes_113 : decode cX14_breathes 113 = .ok (.return_, 1) := by decide +kernel
theorem dX14_breathes_114 : decode cX14_breathes 114 = .ok (.aload_n 1, 1) := by decide +kernel
theorem dX14_breathes_115 : decode cX14_breathes 115 = .ok (.iconst (-1), 1) := by decide +kernel
theorem dX14_breathes_116 : decode cX14_breathes 116 = .ok (.putfield 115, 3) := by decide +kernel
theorem dX14_breathes_119 : decode cX14_breathes 119 = .ok (.aload_n 0, 1) := by decide +kernel
theorem dX14_breathes_120 : decode cX14_breathes 120 = .ok (.getfield 39, 3) := by decide +kernel
theorem dX14_breathes_123 : decode cX14_breathes 123 = .ok (.bipush 107, 2) := by decide +kernel
theorem dX14_breathes_125 : decode cX14_breathes 125 = .ok (.invokestatic 199, 3) := by decide +kernel
theorem dX14_breathes_128 : decode cX14_breathes 128 = .ok (.invokeinterface 94 2, 5) := by decide +kernel
theorem dX14_breathes_133 : decode cX14_breathes 133 = .ok (.pop, 1) := by decide +kernel
theorem dX14_breathes_134 : decode cX14_breathes 134 = .ok (.return_, 1) := by decide +kernel
set_option maxRecDepth 20000 in
theorem ggX14_isDanger_Jx4a65c_iterator_32c93 : GoodIn wsX14_isDanger wsJx4a65c_iterator_32c93 := goodIn_r _ [11, 12, 13, 14, 15, 16, 17, 18, 19, 20, 21, 22, 23, 24, 25, 81, 82, 83, 84, 85, 86, 87] (by decide +kernel) (by decide +kernel)
set_option maxRecDepth 20000 in
theorem gX14_isDanger_Jx4a65c_iterator_32c93_f66Jx4a65c : GoodIn wsX14_isDanger (va_wsF RX14 66 RJx4a65c ⟨"java/util/List", "iterator", "()Ljava/util/Iterator;"⟩ yJx4a65c_iterator_32c93 wsJx4a65c_iterator_32c93) := goodIn_app (goodIn_of _ (by decide +kernel)) ggX14_isDanger_Jx4a65c_iterator_32c93
set_option maxRecDepth 20000 in
theorem ggX14_isDanger_Jx35411_hasNext_aae02 : GoodIn wsX14_isDanger wsJx35411_hasNext_aae02 := goodIn_r _ [29, 30, 18, 81, 82, 83, 84, 85, 86, 87] (by decide +kernel) (by decide +kernel)
set_option maxRecDepth 20000 in
theorem gX14_isDanger_Jx35411_hasNext_aae02_f70Jx35411 : GoodIn wsX14_isDanger (va_wsF RX14 70 RJx35411 ⟨"java/util/Iterator", "hasNext", "()Z"⟩ yJx35411_hasNext_aae02 wsJx35411_hasNext_aae02) := goodIn_app (goodIn_of _ (by decide +kernel)) ggX14_isDanger_Jx35411_hasNext_aae02
set_option maxRecDepth 20000 in
theorem ggX14_isDanger_Jx35411_next_0502b : GoodIn wsX14_isDanger wsJx35411_next_0502b := goodIn_r _ [34, 30, 18, 35, 22, 36, 37, 38, 14, 39, 23, 24, 25, 81, 82, 83, 84, 85, 86, 87] (by decide +kernel) (by decide +kernel)
set_option maxRecDepth 20000 in
theorem gX14_isDanger_Jx35411_next_0502b_f76Jx35411 : GoodIn wsX14_isDanger (va_wsF RX14 76 RJx35411 ⟨"java/util/Iterator", "next", "()Ljava/lang/Object;"⟩ yJx35411_next_0502b wsJx35411_next_0502b) := goodIn_app (goodIn_of _ (by decide +kernel)) ggX14_isDanger_Jx35411_next_0502b
set_option maxRecDepth 20000 in
theorem ggX14_isDanger_Jx4a65c_get_915e3 : GoodIn wsX14_isDanger wsJx4a65c_get_915e3 := goodIn_r _ [43, 44, 45, 46, 47, 48, 49, 50, 51, 52, 53, 54, 55, 10, 56, 57, 85, 86, 87] (by decide +kernel) (by decide +kernel)
set_option maxRecDepth 20000 in
theorem gX14_isDanger_Jx4a65c_get_915e3_f138Jx4a65c : GoodIn wsX14_isDanger (va_wsF RX14 138 RJx4a65c ⟨"java/util/List", "get", "(I)Ljava/lang/Object;"⟩ yJx4a65c_get_915e3 wsJx4a65c_get_915e3) := goodIn_app (goodIn_of _ (by decide +kernel)) ggX14_isDanger_Jx4a65c_get_915e3
set_option maxRecDepth 20000 in
theorem ggX14_isDanger_J6_intValue_8abf5 : GoodIn wsX14_isDanger wsJ6_intValue_8abf5 := goodIn_r _ [62, 63, 88] (by decide +kernel) (by decide +kernel)
set_option maxRecDepth 20000 in
theorem gX14_isDanger_J6_intValue_8abf5 : GoodIn wsX14_isDanger (wsV RX14 144 RJ6 yJ6_intValue_8abf5 wsJ6_intValue_8abf5) := goodIn_app (goodIn_of _ (by decide +kernel)) ggX14_isDanger_J6_intValue_8abf5
theorem dX14_isDanger_0 : decode cX14_isDanger 0 = .ok (.iconst 0, 1) := by decide +kernel
theorem dX14_isDanger_1 : decode cX14_isDanger 1 = .ok (.istore_n 1, 1) := by decide +kernel
theorem dX14_isDanger_2 : decode cX14_isDanger 2 = .ok (.aload_n 0, 1) := by decide +kernel
theorem dX14_isDanger_3 : decode cX14_isDanger 3 = .ok (.getfield 30, 3) := by decide +kernel
theorem dX14_isDanger_6 : decode cX14_isDanger 6 = .ok (.invokeinterface 66 1, 5) := by decide +kernel
theorem dX14_isDanger_11 : decode cX14_isDanger 11 = .ok (.astore_n 2, 1) := by decide +kernel
theorem dX14_isDanger_12 : decode cX14_isDanger 12 = .ok (.aload_n 2, 1) := by decide +kernel
theorem dX14_isDanger_13 : decode cX14_isDanger 13 = .ok (.invokeinterface 70 1, 5) := by decide +kernel
theorem dX14_isDanger_18 : decode cX14_isDanger 18 = .ok (.ifCond .eq 80, 3) := by decide +kernel
theorem dX14_isDanger_21 : decode cX14_isDanger 21 = .ok (.aload_n 2, 1) := by decide +kernel
theorem dX14_isDanger_22 : decode cX14_isDanger 22 = .ok (.invokeinterface 76 1, 5) := by decide +kernel
theorem dX14_isDanger_27 : decode cX14_isDanger 27 = .ok (.checkcast 113, 3) := by decide +kernel
theorem dX14_isDanger_30 : decode cX14_isDanger 30 = .ok (.astore_n 3, 1) := by decide +kernel
theorem dX14_isDanger_31 : decode cX14_isDanger 31 = .ok (.iload_n 1, 1) := by decide +kernel
theorem dX14_isDanger_32 : decode cX14_isDanger 32 = .ok (.aload_n 3, 1) := by decide +kernel
theorem dX14_isDanger_33 : decode cX14_isDanger 33 = .ok (.getfield 115, 3) := by decide +kernel
theorem dX14_isDanger_36 : decode cX14_isDanger 36 = .ok (.iconst (-1), 1) := by decide +kernel
theorem dX14_isDanger_37 : decode cX14_isDanger 37 = .ok (.if_icmp .eq 55, 3) := by decide +kernel
theorem dX14_isDanger_40 : decode cX14_isDanger 40 = .ok (.aload_n 0, 1) := by decide +kernel
theorem dX14_isDanger_41 : decode cX14_isDanger 41 = .ok (.getfield 12, 3) := by decide +kernel
theorem dX14_isDanger_44 : decode cX14_isDanger 44 = .ok (.aload_n 3, 1) := by decide +kernel
theorem dX14_isDanger_45 : decode cX14_isDanger 45 = .ok (.getfield 115, 3) := by decide +kernel
theorem dX14_isDanger_48 : decode cX14_isDanger 48 = .ok (.invokeinterface 138 2, 5) := by decide +kernel
theorem dX14_isDanger_53 : decode cX14_isDanger 53 = .ok (.checkcast 142, 3) := by decide +kernel
theorem dX14_isDanger_56 : decode cX14_isDanger 56 = .ok (.invokevirtual 144, 3) := by decide +kernel
theorem dX14_isDanger_59 : decode cX14_isDanger 59 = .ok (.bipush 10, 2) := by decide +kernel
theorem dX14_isDanger_61 : decode cX14_isDanger 61 = .ok (.if_icmp .lt 27, 3) := by decide +kernel
theorem dX14_isDanger_64 : decode cX14_isDanger 64 = .ok (.aload_n 0, 1) := by decide +kernel
theorem dX14_isDanger_65 : decode cX14_isDanger 65 = .ok (.getfield 18, 3) := by decide +kernel
theorem dX14_isDanger_68 : decode cX14_isDanger 68 = .ok (.aload_n 3, 1) := by decide +kernel
theorem dX14_isDanger_69 : decode cX14_isDanger 69 = .ok (.getfield 115, 3) := by decide +kernel
theorem dX14_isDanger_72 : decode cX14_isDanger 72 = .ok (.invokeinterface 138 2, 5) := by decide +kernel
theorem dX14_isDanger_77 : decode cX14_isDanger 77 = .ok (.checkcast 142, 3) := by decide +kernel
theorem dX14_isDanger_80 : decode cX14_isDanger 80 = .ok (.invokevirtual 144, 3) := by decide +kernel
theorem dX14_isDanger_83 : decode cX14_isDanger 83 = .ok (.bipush 40, 2) := by decide +kernel
theorem dX14_isDanger_85 : decode cX14_isDanger 85 = .ok (.if_icmp .le 7, 3) := by decide +kernel
theorem dX14_isDanger_88 : decode cX14_isDanger 88 = .ok (.iconst 1, 1) := by decide +kernel
theorem dX14_isDanger_89 : decode cX14_isDanger 89 = .ok (.goto 4, 3) := by decide +kernel
theorem dX14_isDanger_92 : decode cX14_isDanger 92 = .ok (.iconst 0, 1) := by decide +kernel
theorem dX14_isDanger_93 : decode cX14_isDanger 93 = .ok (.ior, 1) := by decide +kernel
theorem dX14_isDanger_94 : decode cX14_isDanger 94 = .ok (.istore_n 1, 1) := by decide +kernel
theorem dX14_isDanger_95 : decode cX14_isDanger 95 = .ok (.goto (-83), 3) := by decide +kernel
theorem dX14_isDanger_98 : decode cX14_isDanger 98 = .ok (.iload_n 1, 1) := by decide +kernel
theorem dX14_isDanger_99 : decode cX14_isDanger 99 = .ok (.ireturn, 1) := by decide +kernel
set_option maxRecDepth 20000 in
theorem ggX14_saves_J11_valueOf_f0083 : GoodIn wsX14_saves wsJ11_valueOf_f0083 := goodIn_r _ [14, 15, 16, 17, 13, 18, 19, 20, 21, 22, 23, 24, 135] (by decide +kernel) (by decide +kernel)
set_option maxRecDepth 20000 in
theorem gX14_saves_J11_valueOf_f0083 : GoodIn wsX14_saves (va_wsS RX14 199 yJ11_valueOf_f0083 wsJ11_valueOf_f0083) := goodIn_app (goodIn_of _ (by decide +kernel)) ggX14_saves_J11_valueOf_f0083
set_option maxRecDepth 20000 in
theorem ggX14_saves_Jx4a65c_add_9ea2d : GoodIn wsX14_saves wsJx4a65c_add_9ea2d := goodIn_r _ [29, 30, 31, 32, 33, 34, 35, 36, 28, 37, 38, 39, 40, 41, 42, 43, 44, 45, 46, 47, 48, 49, 50, 51, 52, 53, 54, 55, 56, 57, 58, 59, 60, 61, 62, 63, 64, 65, 66, 67, 68, 69, 70, 71, 72, 73, 74, 75, 76, 77, 78, 79, 80, 136, 137, 138] (by decide +kernel) (by decide +kernel)
set_option maxRecDepth 20000 in
theorem gX14_saves_Jx4a65c_add_9ea2d_f94Jx4a65c : GoodIn wsX14_saves (va_wsF RX14 94 RJx4a65c ⟨"java/util/List", "add", "(Ljava/lang/Object;)Z"⟩ yJx4a65c_add_9ea2d wsJx4a65c_add_9ea2d) := goodIn_app (goodIn_of _ (by decide +kernel)) ggX14_saves_Jx4a65c_add_9ea2d
set_option maxRecDepth 20000 in
theorem ggX14_saves_Jx4a65c_clear_da8c8 : GoodIn wsX14_saves wsJx4a65c_clear_da8c8 := goodIn_r _ [84, 30, 31, 32, 33, 136, 137, 138] (by decide +kernel) (by decide +kernel)
set_option maxRecDepth 20000 in
theorem gX14_saves_Jx4a65c_clear_da8c8_f218Jx4a65c : GoodIn wsX14_saves (va_wsF RX14 218 RJx4a65c ⟨"java/util/List", "clear", "()V"⟩ yJx4a65c_clear_da8c8 wsJx4a65c_clear_da8c8) := goodIn_app (goodIn_of _ (by decide +kernel)) ggX14_saves_Jx4a65c_clear_da8c8
set_option maxRecDepth 20000 in
theorem ggX14_saves_Jx4a65c_iterator_32c93 : GoodIn wsX14_saves wsJx4a65c_iterator_32c93 := goodIn_r _ [88, 89, 90, 91, 92, 93, 94, 95, 96, 22, 23, 97, 98, 31, 99, 139, 140, 141, 142, 136, 137, 138] (by decide +kernel) (by decide +kernel)
set_option maxRecDepth 20000 in
theorem gX14_saves_Jx4a65c_iterator_32c93_f66Jx4a65c : GoodIn wsX14_saves (va_wsF RX14 66 RJx4a65c ⟨"java/util/List", "iterator", "()Ljava/util/Iterator;"⟩ yJx4a65c_iterator_32c93 wsJx4a65c_iterator_32c93) := goodIn_app (goodIn_of _ (by decide +kernel)) ggX14_saves_Jx4a65c_iterator_32c93
set_option maxRecDepth 20000 in
theorem ggX14_saves_Jx35411_hasNext_aae02 : GoodIn wsX14_saves wsJx35411_hasNext_aae02 := goodIn_r _ [103, 104, 95, 139, 140, 141, 142, 136, 137, 138] (by decide +kernel) (by decide +kernel)
set_option maxRecDepth 20000 in
theorem gX14_saves_Jx35411_hasNext_aae02_f70Jx35411 : GoodIn wsX14_saves (va_wsF RX14 70 RJx35411 ⟨"java/util/Iterator", "hasNext", "()Z"⟩ yJx35411_hasNext_aae02 wsJx35411_hasNext_aae02) := goodIn_app (goodIn_of _ (by decide +kernel)) ggX14_saves_Jx35411_hasNext_aae02
set_option maxRecDepth 20000 in
theorem ggX14_saves_Jx35411_next_0502b : GoodIn wsX14_saves wsJx35411_next_0502b := goodIn_r _ [108, 104, 95, 109, 97, 110, 111, 112, 91, 113, 98, 31, 99, 139, 140, 141, 142, 136, 137, 138] (by decide +kernel) (by decide +kernel)
set_option maxRecDepth 20000 in
theorem gX14_saves_Jx35411_next_0502b_f76Jx35411 : GoodIn wsX14_saves (va_wsF RX14 76 RJx35411 ⟨"java/util/Iterator", "next", "()Ljava/lang/Object;"⟩ yJx35411_next_0502b wsJx35411_next_0502b) := goodIn_app (goodIn_of _ (by decide +kernel)) ggX14_saves_Jx35411_next_0502b
theorem dX14_saves_0 : decode cX14_saves 0 = .ok (.aload_n 0, 1) := by decide +kernel
theorem dX14_saves_1 : decode cX14_saves 1 = .ok (.iconst 1, 1) := by decide +kernel
theorem dX14_saves_2 : decode cX14_saves 2 = .ok (.putfield 55, 3) := by decide +kernel
theorem dX14_saves_5 : decode cX14_saves 5 = .ok (.aload_n 0, 1) := by decide +kernel
theorem dX14_saves_6 : decode cX14_saves 6 = .ok (.getfield 39, 3) := by decide +kernel
theorem dX14_saves_9 : decode cX14_saves 9 = .ok (.bipush 115, 2) := by decide +kernel
theorem dX14_saves_11 : decode cX14_saves 11 = .ok (.invokestatic 199, 3) := by decide +kernel
theorem dX14_saves_14 : decode cX14_saves 14 = .ok (.invokeinterface 94 2, 5) := by decide +kernel
theorem dX14_saves_19 : decode cX14_saves 19 = .ok (.pop, 1) := by decide +kernel
theorem dX14_saves_20 : decode cX14_saves 20 = .ok (.aload_n 0, 1) := by decide +kernel
theorem dX14_saves_21 : decode cX14_saves 21 = .ok (.getfield 36, 3) := by decide +kernel
theorem dX14_saves_24 : decode cX14_saves 24 = .ok (.invokeinterface 218 1, 5) := by decide +kernel
theorem dX14_saves_29 : decode cX14_saves 29 = .ok (.aload_n 0, 1) := by decide +kernel
theorem dX14_saves_30 : decode cX14_saves 30 = .ok (.getfield 27, 3) := by decide +kernel
theorem dX14_saves_33 : decode cX14_saves 33 = .ok (.invokeinterface 66 1, 5) := by decide +kernel
theorem dX14_saves_38 : decode cX14_saves 38 = .ok (.astore_n 1, 1) := by decide +kernel
theorem dX14_saves_39 : decode cX14_saves 39 = .ok (.aload_n 1, 1) := by decide +kernel
theorem dX14_saves_40 : decode cX14_saves 40 = .ok (.invokeinterface 70 1, 5) := by decide +kernel
theorem dX14_saves_45 : decode cX14_saves 45 = .ok (.ifCond .eq 39, 3) := by decide +kernel
theorem dX14_saves_48 : decode cX14_saves 48 = .ok (.aload_n 1, 1) := by decide +kernel
theorem dX14_saves_49 : decode cX14_saves 49 = .ok (.invokeinterface 76 1, 5) := by decide +kernel
theorem dX14_saves_54 : decode cX14_saves 54 = .ok (.checkcast 98, 3) := by decide +kernel
theorem dX14_saves_57 : decode cX14_saves 57 = .ok (.astore_n 2, 1) := by decide +kernel
theorem dX14_saves_58 : decode cX14_saves 58 = .ok (.aload_n 2, 1) := by decide +kernel
theorem dX14_saves_59 : decode cX14_saves 59 = .ok (.dup, 1) := by decide +kernel
theorem dX14_saves_60 : decode cX14_saves 60 = .ok (.getfield 110, 3) := by decide +kernel
theorem dX14_saves_63 : decode cX14_saves 63 = .ok (.aload_n 2, 1) := by decide +kernel
theorem dX14_saves_64 : decode cX14_saves 64 = .ok (.getfield 100, 3) := by decide +kernel
theorem dX14_saves_67 : decode cX14_saves 67 = .ok (.bipush 108, 2) := by decide +kernel
theorem dX14_saves_69 : decode cX14_saves 69 = .ok (.if_icmp .eq 7, 3) := by decide +kernel
theorem dX14_saves_72 : decode cX14_saves 72 = .ok (.iconst 1, 1) := by decide +kernel
theorem dX14_saves_73 : decode cX14_saves 73 = .ok (.goto 4, 3) := by decide +kernel
theorem dX14_saves_76 : decode cX14_saves 76 = .ok (.iconst 0, 1) := by decide +kernel
theorem dX14_saves_77 : decode cX14_saves 77 = .ok (.iand, 1) := by decide +kernel
theorem dX14_saves_78 : decode cX14_saves 78 = .ok (.putfield 110, 3) := by decide +kernel
theorem dX14_saves_81 : decode cX14_saves 81 = .ok (.goto (-42), 3) := by decide +kernel
theorem dX14_saves_84 : decode cX14_saves 84 = .ok (.aload_n 0, 1) := by decide +kernel
theorem dX14_saves_85 : decode cX14_saves 85 = .ok (.getfield 30, 3) := by decide +kernel
theorem dX14_saves_88 : decode cX14_saves 88 = .ok (.invokeinterface 66 1, 5) := by decide +kernel
theorem dX14_saves_93 : decode cX14_saves 93 = .ok (.astore_n 1, 1) := by decide +kernel
theorem dX14_saves_94 : decode cX14_saves 94 = .ok (.aload_n 1, 1) := by decide +kernel
theorem dX14_saves_95 : decode cX14_saves 95 = .ok (.invokeinterface 70 1, 5) := by decide +kernel
theorem dX14_saves_100 : decode cX14_saves 100 = .ok (.ifCond .eq 38, 3) := by decide +kernel
theorem dX14_saves_103 : decode cX14_saves 103 = .ok (.aload_n 1, 1) := by decide +kernel
theorem dX14_saves_104 : decode cX14_saves 104 = .ok (.invokeinterface 76 1, 5) := by decide +kernel
theorem dX14_saves_109 : decode cX14_saves 109 = .ok (.checkcast 113, 3) := by decide +kernel
theorem dX14_saves_112 : decode cX14_saves 112 = .ok (.astore_n 2, 1) := by decide +kernel
theorem dX14_saves_113 : decode cX14_saves 113 = .ok (.aload_n 2, 1) := by decide +kernel
theorem dX14_saves_114 : decode cX14_saves 114 = .ok (.aload_n 2, 1) := by decide +kernel
theorem dX14_saves_115 : decode cX14_saves 115 = .ok (.getfield 119, 3) := by decide +kernel
theorem dX14_saves_118 : decode cX14_saves 118 = .ok (.bipush 119, 2) := by decide +kernel
theorem dX14_saves_120 : decode cX14_saves 120 = .ok (.if_icmp .ne 8, 3) := by decide +kernel
theorem dX14_saves_123 : decode cX14_saves 123 = .ok (.bipush 114, 2) := by decide +kernel
theorem dX14_saves_125 : decode cX14_saves 125 = .ok (.goto 7, 3) := by decide +kernel
theorem dX14_saves_128 : decode cX14_saves 128 = .ok (.aload_n 2, 1) := by decide +kernel
theorem dX14_saves_129 : decode cX14_saves 129 = .ok (.getfield 119, 3) := by decide +kernel
theorem dX14_saves_132 : decode cX14_saves 132 = .ok (.putfield 119, 3) := by decide +kernel
theorem dX14_saves_135 : decode cX14_saves 135 = .ok (.goto (-41), 3) := by decide +kernel
theorem dX14_saves_138 : decode cX14_saves 138 = .ok (.return_, 1) := by decide +kernel
set_option maxRecDepth 20000 in
theorem ggX14_timeLeft_X14_alive : GoodIn wsX14_timeLeft wsX14_alive := goodIn_r _ [5, 6, 7, 8, 9, 10, 11, 12, 13, 14, 15, 16, 17, 18, 19, 20, 21, 22, 23, 24, 25, 26, 27, 28, 29, 30, 31, 32, 33, 34, 35, 36, 37, 38, 39, 40, 41, 247, 248, 249, 250, 251, 252, 253, 254, 255, 256, 257, 258, 259, 260, 261, 262, 263, 264, 265, 266, 267, 268, 269, 270] (by decide +kernel) (by decide +kernel)
set_option maxRecDepth 20000 in
theorem gX14_timeLeft_X14_alive : GoodIn wsX14_timeLeft (wsV RX14 221 RX14 yX14_alive wsX14_alive) := goodIn_app (goodIn_of _ (by decide +kernel)) ggX14_timeLeft_X14_alive
set_option maxRecDepth 20000 in
theorem ggX14_timeLeft_X14_passes : GoodIn wsX14_timeLeft wsX14_passes := goodIn_r _ [45, 46, 47, 48, 49, 50, 51, 52, 53, 54, 55, 56, 6, 7, 8, 57, 58, 59, 60, 61, 4, 62, 63, 64, 65, 66, 67, 68, 69, 70, 12, 71, 72, 73, 74, 75, 76, 77, 78, 79, 80, 81, 82, 83, 84, 85, 86, 87, 88, 89, 90, 91, 92, 93, 94, 95, 96, 97, 98, 26, 99, 100, 101, 102, 103, 104, 105, 106, 107, 108, 109, 110, 111, 112, 113, 22, 23, 114, 115, 116, 117, 118, 119, 120, 121, 122, 123, 124, 125, 126, 127, 128, 129, 130, 131, 132, 133, 134, 135, 136, 137, 138, 139, 140, 141, 142, 143, 144, 145, 146, 147, 148, 149, 150, 151, 152, 153, 154, 155, 156, 157, 158, 159, 160, 161, 162, 163, 164, 165, 166, 167, 168, 169, 170, 171, 172, 173, 174, 175, 176, 177, 178, 9, 10, 11, 13, 14, 15, 16, 17, 18, 19, 20, 21, 24, 25, 27, 28, 29, 30, 31, 32, 33, 34, 35, 36, 37, 38, 39, 40, 41, 179, 180, 181, 182, 183, 184, 185, 186, 187, 188, 189, 190, 191, 192, 193, 194, 195, 196, 197, 198, 199, 200, 201, 202, 203, 204, 205, 206, 207, 208, 209, 210, 211, 212, 213, 214, 215, 216, 217, 218, 219, 220, 221, 222, 223, 224, 225, 226, 227, 228, 229, 230, 231, 232, 233, 234, 235, 236, 237, 238, 239, 240, 241, 242, 243, 244, 245, 246, 247, 248, 249, 250, 251, 252, 253, 254, 255, 256, 257, 258, 259, 260, 271, 272, 273, 261, 262, 263, 274, 275, 276, 277, 268, 269, 270, 278, 279, 280, 281, 282, 283, 284, 285, 286, 264, 265, 266, 267, 287] (by decide +kernel) (by decide +kernel)
set_option maxRecDepth 20000 in
theorem gX14_timeLeft_X14_passes : GoodIn wsX14_timeLeft (wsV RX14 224 RX14 yX14_passes wsX14_passes) := goodIn_app (goodIn_of _ (by decide +kernel)) ggX14_timeLeft_X14_passes
theorem dX14_timeLeft_0 : decode cX14_timeLeft 0 = .ok (.aload_n 0, 1) := by decide +kernel
theorem dX14_timeLeft_1 : decode cX14_timeLeft 1 = .ok (.invokevirtual 221, 3) := by decide +kernel
theorem dX14_timeLeft_4 : decode cX14_timeLeft 4 = .ok (.istore_n 1, 1) := by decide +kernel
theorem dX14_timeLeft_5 : decode cX14_timeLeft 5 = .ok (.iconst 0, 1) := by decide +kernel
theorem dX14_timeLeft_6 : decode cX14_timeLeft 6 = .ok (.istore_n 2, 1) := by decide +kernel
theorem dX14_timeLeft_7 : decode cX14_timeLeft 7 = .ok (.iload_n 2, 1) := by decide +kernel
theorem dX14_timeLeft_8 : decode cX14_timeLeft 8 = .ok (.sipush 300, 3) := by decide +kernel
theorem dX14_timeLeft_11 : decode cX14_timeLeft 11 = .ok (.if_icmp .ge 21, 3) := by decide +kernel
theorem dX14_timeLeft_14 : decode cX14_timeLeft 14 = .ok (.aload_n 0, 1) := by decide +kernel
theorem dX14_timeLeft_15 : decode cX14_timeLeft 15 = .ok (.invokevirtual 221, 3) := by decide +kernel
theorem dX14_timeLeft_18 : decode cX14_timeLeft 18 = .ok (.iload_n 1, 1) := by decide +kernel
theorem dX14_timeLeft_19 : decode cX14_timeLeft 19 = .ok (.if_icmp .ne 13, 3) := by decide +kernel
theorem dX14_timeLeft_22 : decode cX14_timeLeft 22 = .ok (.aload_n 0, 1) := by decide +kernel
theorem dX14_timeLeft_23 : decode cX14_timeLeft 23 = .ok (.invokevirtual 224, 3) := by decide +kernel
theorem dX14_timeLeft_26 : decode cX14_timeLeft 26 = .ok (.iinc 2 1, 3) := by decide +kernel
theorem dX14_timeLeft_29 : decode cX14_timeLeft 29 = .ok (.goto (-22), 3) := by decide +kernel
theorem dX14_timeLeft_32 : decode cX14_timeLeft 32 = .ok (.iload_n 2, 1) := by decide +kernel
theorem dX14_timeLeft_33 : decode cX14_timeLeft 33 = .ok (.ireturn, 1) := by decide +kernel
set_option maxRecDepth 20000 in
theorem ggX15_init_X14_init : GoodIn wsX15_init wsX14_init := goodIn_r _ [9, 10, 2, 3, 11, 12, 13, 14, 15, 16, 17, 18, 19, 20, 21, 22, 23, 24, 25, 26, 27, 28, 29, 30, 31, 32, 33, 34, 35, 36, 37, 38, 39, 40, 41, 42, 59, 60, 61, 43, 44, 45, 46, 47, 48, 49, 50, 51, 52, 53, 54, 55, 56] (by decide +kernel) (by decide +kernel)
set_option maxRecDepth 20000 in
theorem gX15_init_X14_init_n9 : GoodIn wsX15_init (wsX14_init) := ggX15_init_X14_init
theorem dX15_init_0 : decode cX15_init 0 = .ok (.aload_n 0, 1) := by decide +kernel
theorem dX15_init_1 : decode cX15_init 1 = .ok (.invokespecial 1, 3) := by decide +kernel
theorem dX15_init_4 : decode cX15_init 4 = .ok (.aload_n 0, 1) := by decide +kernel
theorem dX15_init_5 : decode cX15_init 5 = .ok (.new 7, 3) := by decide +kernel
theorem dX15_init_8 : decode cX15_init 8 = .ok (.dup, 1) := by decide +kernel
theorem dX15_init_9 : decode cX15_init 9 = .ok (.invokespecial 9, 3) := by decide +kernel
theorem dX15_init_12 : decode cX15_init 12 = .ok (.putfield 10, 3) := by decide +kernel
theorem dX15_init_15 : decode cX15_init 15 = .ok (.return_, 1) := by decide +kernel
theorem dX15_thrown_0 : decode cX15_thrown 0 = .ok (.aload_n 0, 1) := by decide +kernel
theorem dX15_thrown_1 : decode cX15_thrown 1 = .ok (.getfield 16, 3) := by decide +kernel
theorem dX15_thrown_4 : decode cX15_thrown 4 = .ok (.ireturn, 1) := by decide +kernel
theorem dX15_refuse_0 : decode cX15_refuse 0 = .ok (.aload_n 0, 1) := by decide +kernel
theorem dX15_refuse_1 : decode cX15_refuse 1 = .ok (.iload_n 1, 1) := by decide +kernel
theorem dX15_refuse_2 : decode cX15_refuse 2 = .ok (.putfield 16, 3) := by decide +kernel
theorem dX15_refuse_5 : decode cX15_refuse 5 = .ok (.iconst 0, 1) := by decide +kernel
theorem dX15_refuse_6 : decode cX15_refuse 6 = .ok (.ireturn, 1) := by decide +kernel
theorem dX15_isIn_0 : decode cX15_isIn 0 = .ok (.iload_n 0, 1) := by decide +kernel
theorem dX15_isIn_1 : decode cX15_isIn 1 = .ok (.iload_n 1, 1) := by decide +kernel
theorem dX15_isIn_2 : decode cX15_isIn 2 = .ok (.if_icmp .lt 12, 3) := by decide +kernel
theorem dX15_isIn_5 : decode cX15_isIn 5 = .ok (.iload_n 0, 1) := by decide +kernel
theorem dX15_isIn_6 : decode cX15_isIn 6 = .ok (.iload_n 2, 1) := by decide +kernel
theorem dX15_isIn_7 : decode cX15_isIn 7 = .ok (.if_icmp .gt 7, 3) := by decide +kernel
theorem dX15_isIn_10 : decode cX15_isIn 10 = .ok (.iconst 1, 1) := by decide +kernel
theorem dX15_isIn_11 : decode cX15_isIn 11 = .ok (.goto 4, 3) := by decide +kernel
theorem dX15_isIn_14 : decode cX15_isIn 14 = .ok (.iconst 0, 1) := by decide +kernel
theorem dX15_isIn_15 : decode cX15_isIn 15 = .ok (.ireturn, 1) := by decide +kernel
theorem dX15_no_0 : decode cX15_no 0 = .ok (.aload_n 0, 1) := by decide +kernel
theorem dX15_no_1 : decode cX15_no 1 = .ok (.iload_n 1, 1) := by decide +kernel
theorem dX15_no_2 : decode cX15_no 2 = .ok (.ifCond .eq 7, 3) := by decide +kernel
theorem dX15_no_5 : decode cX15_no 5 = .ok (.iconst 0, 1) := by decide +kernel
theorem dX15_no_6 : decode cX15_no 6 = .ok (.goto 4, 3) := by decide +kernel
theorem dX15_no_9 : decode cX15_no 9 = .ok (.iload_n 2, 1) := by decide +kernel
theorem dX15_no_10 : decode cX15_no 10 = .ok (.putfield 16, 3) := by decide +kernel
theorem dX15_no_13 : decode cX15_no 13 = .ok (.iload_n 1, 1) := by decide +kernel
theorem dX15_no_14 : decode cX15_no 14 = .ok (.ifCond .ne 7, 3) := by decide +kernel
theorem dX15_no_17 : decode cX15_no 17 = .ok (.iconst 1, 1) := by decide +kernel
theorem dX15_no_18 : decode cX15_no 18 = .ok (.goto 4, 3) := by decide +kernel
theorem dX15_no_21 : decode cX15_no 21 = .ok (.iconst 0, 1) := by decide +kernel
theorem dX15_no_22 : decode cX15_no 22 = .ok (.ireturn, 1) := by decide +kernel
set_option maxRecDepth 20000 in
theorem ggX15_isRoom_Jx4a65c_size_8abf5 : GoodIn wsX15_isRoom wsJx4a65c_size_8abf5 := goodIn_r _ [7, 8, 29, 30, 31] (by decide +kernel) (by decide +kernel)
set_option maxRecDepth 20000 in
theorem gX15_isRoom_Jx4a65c_size_8abf5_f24Jx4a65c : GoodIn wsX15_isRoom (va_wsF RX15 24 RJx4a65c ⟨"java/util/List", "size", "()I"⟩ yJx4a65c_size_8abf5 wsJx4a65c_size_8abf5) := goodIn_app (goodIn_of _ (by decide +kernel)) ggX15_isRoom_Jx4a65c_size_8abf5
set_option maxRecDepth 20000 in
theorem ggX15_isRoom_X15_isIn : GoodIn wsX15_isRoom wsX15_isIn := goodIn_r _ [12] (by decide +kernel) (by decide +kernel)
set_option maxRecDepth 20000 in
theorem gX15_isRoom_X15_isIn : GoodIn wsX15_isRoom (va_wsS RX15 30 yX15_isIn wsX15_isIn) := goodIn_app (goodIn_of _ (by decide +kernel)) ggX15_isRoom_X15_isIn
theorem dX15_isRoom_0 : decode cX15_isRoom 0 = .ok (.iload_n 1, 1) := by decide +kernel
theorem dX15_isRoom_1 : decode cX15_isRoom 1 = .ok (.iconst 0, 1) := by decide +kernel
theorem dX15_isRoom_2 : decode cX15_isRoom 2 = .ok (.aload_n 0, 1) := by decide +kernel
theorem dX15_isRoom_3 : decode cX15_isRoom 3 = .ok (.getfield 10, 3) := by decide +kernel
theorem dX15_isRoom_6 : decode cX15_isRoom 6 = .ok (.getfield 20, 3) := by decide +kernel
theorem dX15_isRoom_9 : decode cX15_isRoom 9 = .ok (.invokeinterface 24 1, 5) := by decide +kernel
theorem dX15_isRoom_14 : decode cX15_isRoom 14 = .ok (.iconst 1, 1) := by decide +kernel
theorem dX15_isRoom_15 : decode cX15_isRoom 15 = .ok (.isub, 1) := by decide +kernel
theorem dX15_isRoom_16 : decode cX15_isRoom 16 = .ok (.invokestatic 30, 3) := by decide +kernel
theorem dX15_isRoom_19 : decode cX15_isRoom 19 = .ok (.ireturn, 1) := by decide +kernel
set_option maxRecDepth 20000 in
theorem ggX15_isHatch_Jx4a65c_size_8abf5 : GoodIn wsX15_isHatch wsJx4a65c_size_8abf5 := goodIn_r _ [7, 8, 29, 30, 31] (by decide +kernel) (by decide +kernel)
set_option maxRecDepth 20000 in
theorem gX15_isHatch_Jx4a65c_size_8abf5_f24Jx4a65c : GoodIn wsX15_isHatch (va_wsF RX15 24 RJx4a65c ⟨"java/util/List", "size", "()I"⟩ yJx4a65c_size_8abf5 wsJx4a65c_size_8abf5) := goodIn_app (goodIn_of _ (by decide +kernel)) ggX15_isHatch_Jx4a65c_size_8abf5
set_option maxRecDepth 20000 in
theorem ggX15_isHatch_X15_isIn : GoodIn wsX15_isHatch wsX15_isIn := goodIn_r _ [12] (by decide +kernel) (by decide +kernel)
set_option maxRecDepth 20000 in
theorem gX15_isHatch_X15_isIn : GoodIn wsX15_isHatch (va_wsS RX15 30 yX15_isIn wsX15_isIn) := goodIn_app (goodIn_of _ (by decide +kernel)) ggX15_isHatch_X15_isIn
theorem dX15_isHatch_0 : decode cX15_isHatch 0 = .ok (.iload_n 1, 1) := by decide +kernel
theorem dX15_isHatch_1 : decode cX15_isHatch 1 = .ok (.iconst 0, 1) := by decide +kernel
theorem dX15_isHatch_2 : decode cX15_isHatch 2 = .ok (.aload_n 0, 1) := by decide +kernel
theorem dX15_isHatch_3 : decode cX15_isHatch 3 = .ok (.getfield 10, 3) := by decide +kernel
theorem dX15_isHatch_6 : decode cX15_isHatch 6 = .ok (.getfield 34, 3) := by decide +kernel
theorem dX15_isHatch_9 : decode cX15_isHatch 9 = .ok (.invokeinterface 24 1, 5) := by decide +kernel
theorem dX15_isHatch_14 : decode cX15_isHatch 14 = .ok (.iconst 1, 1) := by decide +kernel
theorem dX15_isHatch_15 : decode cX15_isHatch 15 = .ok (.isub, 1) := by decide +kernel
theorem dX15_isHatch_16 : decode cX15_isHatch 16 = .ok (.invokestatic 30, 3) := by decide +kernel
theorem dX15_isHatch_19 : decode cX15_isHatch 19 = .ok (.ireturn, 1) := by decide +kernel
set_option maxRecDepth 20000 in
theorem ggX15_isDevice_Jx4a65c_size_8abf5 : GoodIn wsX15_isDevice wsJx4a65c_size_8abf5 := goodIn_r _ [7, 8, 29, 30, 31] (by decide +kernel) (by decide +kernel)
set_option maxRecDepth 20000 in
theorem gX15_isDevice_Jx4a65c_size_8abf5_f24Jx4a65c : GoodIn wsX15_isDevice (va_wsF RX15 24 RJx4a65c ⟨"java/util/List", "size", "()I"⟩ yJx4a65c_size_8abf5 wsJx4a65c_size_8abf5) := goodIn_app (goodIn_of _ (by decide +kernel)) ggX15_isDevice_Jx4a65c_size_8abf5
set_option maxRecDepth 20000 in
theorem ggX15_isDevice_X15_isIn : GoodIn wsX15_isDevice wsX15_isIn := goodIn_r _ [12] (by decide +kernel) (by decide +kernel)
set_option maxRecDepth 20000 in
theorem gX15_isDevice_X15_isIn : GoodIn wsX15_isDevice (va_wsS RX15 30 yX15_isIn wsX15_isIn) := goodIn_app (goodIn_of _ (by decide +kernel)) ggX15_isDevice_X15_isIn
theorem dX15_isDevice_0 : decode cX15_isDevice 0 = .ok (.iload_n 1, 1) := by decide +kernel
theorem dX15_isDevice_1 : decode cX15_isDevice 1 = .ok (.iconst 0, 1) := by decide +kernel
theorem dX15_isDevice_2 : decode cX15_isDevice 2 = .ok (.aload_n 0, 1) := by decide +kernel
theorem dX15_isDevice_3 : decode cX15_isDevice 3 = .ok (.getfield 10, 3) := by decide +kernel
theorem dX15_isDevice_6 : decode cX15_isDevice 6 = .ok (.getfield 37, 3) := by decide +kernel
theorem dX15_isDevice_9 : decode cX15_isDevice 9 = .ok (.invokeinterface 24 1, 5) := by decide +kernel
theorem dX15_isDevice_14 : decode cX15_isDevice 14 = .ok (.iconst 1, 1) := by decide +kernel
theorem dX15_isDevice_15 : decode cX15_isDevice 15 = .ok (.isub, 1) := by decide +kernel
theorem dX15_isDevice_16 : decode cX15_isDevice 16 = .ok (.invokestatic 30, 3) := by decide +kernel
theorem dX15_isDevice_19 : decode cX15_isDevice 19 = .ok (.ireturn, 1) := by decide +kernel
set_option maxRecDepth 20000 in
theorem ggX15_noPerson_Jx4a65c_size_8abf5 : GoodIn wsX15_noPerson wsJx4a65c_size_8abf5 := goodIn_r _ [7, 8, 34, 35, 36] (by decide +kernel) (by decide +kernel)
set_option maxRecDepth 20000 in
theorem gX15_noPerson_Jx4a65c_size_8abf5_f24Jx4a65c : GoodIn wsX15_noPerson (va_wsF RX15 24 RJx4a65c ⟨"java/util/List", "size", "()I"⟩ yJx4a65c_size_8abf5 wsJx4a65c_size_8abf5) := goodIn_app (goodIn_of _ (by decide +kernel)) ggX15_noPerson_Jx4a65c_size_8abf5
set_option maxRecDepth 20000 in
theorem ggX15_noPerson_X15_isIn : GoodIn wsX15_noPerson wsX15_isIn := goodIn_r _ [12] (by decide +kernel) (by decide +kernel)
set_option maxRecDepth 20000 in
theorem gX15_noPerson_X15_isIn : GoodIn wsX15_noPerson (va_wsS RX15 30 yX15_isIn wsX15_isIn) := goodIn_app (goodIn_of _ (by decide +kernel)) ggX15_noPerson_X15_isIn
set_option maxRecDepth 20000 in
theorem ggX15_noPerson_X15_no : GoodIn wsX15_noPerson wsX15_no := goodIn_r _ [16, 17, 18, 19] (by decide +kernel) (by decide +kernel)
set_option maxRecDepth 20000 in
theorem gX15_noPerson_X15_no : GoodIn wsX15_noPerson (wsV RX15 43 RX15 yX15_no wsX15_no) := goodIn_app (goodIn_of _ (by decide +kernel)) ggX15_noPerson_X15_no
theorem dX15_noPerson_0 : decode cX15_noPerson 0 = .ok (.aload_n 0, 1) := by decide +kernel
theorem dX15_noPerson_1 : decode cX15_noPerson 1 = .ok (.iload_n 1, 1) := by decide +kernel
theorem dX15_noPerson_2 : decode cX15_noPerson 2 = .ok (.iconst 0, 1) := by decide +kernel
theorem dX15_noPerson_3 : decode cX15_noPerson 3 = .ok (.aload_n 0, 1) := by decide +kernel
theorem dX15_noPerson_4 : decode cX15_noPerson 4 = .ok (.getfield 10, 3) := by decide +kernel
theorem dX15_noPerson_7 : decode cX15_noPerson 7 = .ok (.getfield 40, 3) := by decide +kernel
theorem dX15_noPerson_10 : decode cX15_noPerson 10 = .ok (.invokeinterface 24 1, 5) := by decide +kernel
theorem dX15_noPerson_15 : decode cX15_noPerson 15 = .ok (.iconst 1, 1) := by decide +kernel
theorem dX15_noPerson_16 : decode cX15_noPerson 16 = .ok (.isub, 1) := by decide +kernel
theorem dX15_noPerson_17 : decode cX15_noPerson 17 = .ok (.invokestatic 30, 3) := by decide +kernel
theorem dX15_noPerson_20 : decode cX15_noPerson 20 = .ok (.iconst 1, 1) := by decide +kernel
theorem dX15_noPerson_21 : decode cX15_noPerson 21 = .ok (.invokevirtual 43, 3) := by decide +kernel
theorem dX15_noPerson_24 : decode cX15_noPerson 24 = .ok (.ireturn, 1) := by decide +kernel
set_option maxRecDepth 20000 in
theorem ggX15_addRoom_X15_isIn : GoodIn wsX15_addRoom wsX15_isIn := goodIn_r _ [8] (by decide +kernel) (by decide +kernel)
set_option maxRecDepth 20000 in
theorem gX15_addRoom_X15_isIn : GoodIn wsX15_addRoom (va_wsS RX15 30 yX15_isIn wsX15_isIn) := goodIn_app (goodIn_of _ (by decide +kernel)) ggX15_addRoom_X15_isIn
set_option maxRecDepth 20000 in
theorem ggX15_addRoom_X15_no : GoodIn wsX15_addRoom wsX15_no := goodIn_r _ [12, 13, 93, 94] (by decide +kernel) (by decide +kernel)
set_option maxRecDepth 20000 in
theorem gX15_addRoom_X15_no : GoodIn wsX15_addRoom (wsV RX15 43 RX15 yX15_no wsX15_no) := goodIn_app (goodIn_of _ (by decide +kernel)) ggX15_addRoom_X15_no
set_option maxRecDepth 20000 in
theorem ggX15_addRoom_Jx4a65c_size_8abf5 : GoodIn wsX15_addRoom wsJx4a65c_size_8abf5 := goodIn_r _ [18, 19, 109, 110, 111] (by decide +kernel) (by decide +kernel)
set_option maxRecDepth 20000 in
theorem gX15_addRoom_Jx4a65c_size_8abf5_f24Jx4a65c : GoodIn wsX15_addRoom (va_wsF RX15 24 RJx4a65c ⟨"java/util/List", "size", "()I"⟩ yJx4a65c_size_8abf5 wsJx4a65c_size_8abf5) := goodIn_app (goodIn_of _ (by decide +kernel)) ggX15_addRoom_Jx4a65c_size_8abf5
set_option maxRecDepth 20000 in
theorem ggX15_addRoom_J6_valueOf_2dffe : GoodIn wsX15_addRoom wsJ6_valueOf_2dffe := goodIn_r _ [23, 24, 25, 26, 27, 22, 28, 29, 30, 31, 32, 33, 34, 35, 36, 37, 38, 112] (by decide +kernel) (by decide +kernel)
set_option maxRecDepth 20000 in
theorem gX15_addRoom_J6_valueOf_2dffe : GoodIn wsX15_addRoom (va_wsS RX15 47 yJ6_valueOf_2dffe wsJ6_valueOf_2dffe) := goodIn_app (goodIn_of _ (by decide +kernel)) ggX15_addRoom_J6_valueOf_2dffe
set_option maxRecDepth 20000 in
theorem ggX15_addRoom_Jx4a65c_add_9ea2d : GoodIn wsX15_addRoom wsJx4a65c_add_9ea2d := goodIn_r _ [42, 43, 44, 45, 19, 46, 47, 48, 17, 49, 50, 51, 52, 53, 54, 55, 56, 57, 58, 59, 60, 61, 62, 63, 64, 65, 66, 67, 68, 69, 70, 71, 72, 73, 74, 75, 76, 77, 78, 79, 80, 81, 82, 83, 84, 85, 86, 87, 88, 89, 90, 91, 92, 109, 110, 111] (by decide +kernel) (by decide +kernel)
set_option maxRecDepth 20000 in
theorem gX15_addRoom_Jx4a65c_add_9ea2d_f53Jx4a65c : GoodIn wsX15_addRoom (va_wsF RX15 53 RJx4a65c ⟨"java/util/List", "add", "(Ljava/lang/Object;)Z"⟩ yJx4a65c_add_9ea2d wsJx4a65c_add_9ea2d) := goodIn_app (goodIn_of _ (by decide +kernel)) ggX15_addRoom_Jx4a65c_add_9ea2d
theorem dX15_addRoom_0 : decode cX15_addRoom 0 = .ok (.aload_n 0, 1) := by decide +kernel
theorem dX15_addRoom_1 : decode cX15_addRoom 1 = .ok (.iload_n 1, 1) := by decide +kernel
theorem dX15_addRoom_2 : decode cX15_addRoom 2 = .ok (.iconst 0, 1) := by decide +kernel
theorem dX15_addRoom_3 : decode cX15_addRoom 3 = .ok (.sipush 200, 3) := by decide +kernel
theorem dX15_addRoom_6 : decode cX15_addRoom 6 = .ok (.invokestatic 30, 3) := by decide +kernel
theorem dX15_addRoom_9 : decode cX15_addRoom 9 = .ok (.iconst 1, 1) := by decide +kernel
theorem dX15_addRoom_10 : decode cX15_addRoom 10 = .ok (.invokevirtual 43, 3) := by decide +kernel
theorem dX15_addRoom_13 : decode cX15_addRoom 13 = .ok (.ifCond .ne 33, 3) := by decide +kernel
theorem dX15_addRoom_16 : decode cX15_addRoom 16 = .ok (.aload_n 0, 1) := by decide +kernel
theorem dX15_addRoom_17 : decode cX15_addRoom 17 = .ok (.aload_n 0, 1) := by decide +kernel
theorem dX15_addRoom_18 : decode cX15_addRoom 18 = .ok (.getfield 10, 3) := by decide +kernel
theorem dX15_addRoom_21 : decode cX15_addRoom 21 = .ok (.getfield 20, 3) := by decide +kernel
theorem dX15_addRoom_24 : decode cX15_addRoom 24 = .ok (.invokeinterface 24 1, 5) := by decide +kernel
theorem dX15_addRoom_29 : decode cX15_addRoom 29 = .ok (.bipush 6, 2) := by decide +kernel
theorem dX15_addRoom_31 : decode cX15_addRoom 31 = .ok (.if_icmp .ge 7, 3) := by decide +kernel
theorem dX15_addRoom_34 : decode cX15_addRoom 34 = .ok (.iconst 1, 1) := by decide +kernel
theorem dX15_addRoom_35 : decode cX15_addRoom 35 = .ok (.goto 4, 3) := by decide +kernel
theorem dX15_addRoom_38 : decode cX15_addRoom 38 = .ok (.iconst 0, 1) := by decide +kernel
theorem dX15_addRoom_39 : decode cX15_addRoom 39 = .ok (.iconst 2, 1) := by decide +kernel
theorem dX15_addRoom_40 : decode cX15_addRoom 40 = .ok (.invokevirtual 43, 3) := by decide +kernel
theorem dX15_addRoom_43 : decode cX15_addRoom 43 = .ok (.ifCond .eq 5, 3) := by decide +kernel
theorem dX15_addRoom_46 : decode cX15_addRoom 46 = .ok (.iconst 0, 1) := by decide +kernel
theorem dX15_addRoom_47 : decode cX15_addRoom 47 = .ok (.ireturn, 1) := by decide +kernel
theorem dX15_addRoom_48 : decode cX15_addRoom 48 = .ok (.aload_n 0, 1) := by decide +kernel
theorem dX15_addRoom_49 : decode cX15_addRoom 49 = .ok (.getfield 10, 3) := by decide +kernel
theorem dX15_addRoom_52 : decode cX15_addRoom 52 = .ok (.getfield 20, 3) := by decide +kernel
theorem dX15_addRoom_55 : decode cX15_addRoom 55 = .ok (.iload_n 1, 1) := by decide +kernel
theorem dX15_addRoom_56 : decode cX15_addRoom 56 = .ok (.invokestatic 47, 3) := by decide +kernel
theorem dX15_addRoom_59 : decode cX15_addRoom 59 = .ok (.invokeinterface 53 2, 5) := by decide +kernel
theorem dX15_addRoom_64 : decode cX15_addRoom 64 = .ok (.pop, 1) := by decide +kernel
theorem dX15_addRoom_65 : decode cX15_addRoom 65 = .ok (.aload_n 0, 1) := by decide +kernel
theorem dX15_addRoom_66 : decode cX15_addRoom 66 = .ok (.getfield 10, 3) := by decide +kernel
theorem dX15_addRoom_69 : decode cX15_addRoom 69 = .ok (.getfield 57, 3) := by decide +kernel
theorem dX15_addRoom_72 : decode cX15_addRoom 72 = .ok (.iconst 0, 1) := by decide +kernel
theorem dX15_addRoom_73 : decode cX15_addRoom 73 = .ok (.invokestatic 47, 3) := by decide +kernel
theorem dX15_addRoom_76 : decode cX15_addRoom 76 = .ok (.invokeinterface 53 2, 5) := by decide +kernel
theorem dX15_addRoom_81 : decode cX15_addRoom 81 = .ok (.pop, 1) := by decide +kernel
theorem dX15_addRoom_82 : decode cX15_addRoom 82 = .ok (.aload_n 0, 1) := by decide +kernel
theorem dX15_addRoom_83 : decode cX15_addRoom 83 = .ok (.getfield 10, 3) := by decide +kernel
theorem dX15_addRoom_86 : decode cX15_addRoom 86 = .ok (.getfield 60, 3) := by decide +kernel
theorem dX15_addRoom_89 : decode cX15_addRoom 89 = .ok (.iconst 0, 1) := by decide +kernel
theorem dX15_addRoom_90 : decode cX15_addRoom 90 = .ok (.invokestatic 47, 3) := by decide +kernel
theorem dX15_addRoom_93 : decode cX15_addRoom 93 = .ok (.invokeinterface 53 2, 5) := by decide +kernel
theorem dX15_addRoom_98 : decode cX15_addRoom 98 = .ok (.pop, 1) := by decide +kernel
theorem dX15_addRoom_99 : decode cX15_addRoom 99 = .ok (.aload_n 0, 1) := by decide +kernel
theorem dX15_addRoom_100 : decode cX15_addRoom 100 = .ok (.getfield 10, 3) := by decide +kernel
theorem dX15_addRoom_103 : decode cX15_addRoom 103 = .ok (.getfield 20, 3) := by decide +kernel
theorem dX15_addRoom_106 : decode cX15_addRoom 106 = .ok (.invokeinterface 24 1, 5) := by decide +kernel
theorem dX15_addRoom_111 : decode cX15_addRoom 111 = .ok (.iconst 1, 1) := by decide +kernel
theorem dX15_addRoom_112 : decode cX15_addRoom 112 = .ok (.isub, 1) := by decide +kernel
theorem dX15_addRoom_113 : decode cX15_addRoom 113 = .ok (.ireturn, 1) := by decide +kernel
set_option maxRecDepth 20000 in
theorem ggX15_addHatch_X15_isRoom : GoodIn wsX15_addHatch wsX15_isRoom := goodIn_r _ [10, 1, 11, 12, 13, 14, 15, 16, 17, 18, 19, 9, 20, 89, 90, 91, 92, 93, 94, 95, 96, 97, 98, 99, 100, 101, 102, 103, 104, 108, 109, 110] (by decide +kernel) (by decide +kernel)
set_option maxRecDepth 20000 in
theorem gX15_addHatch_X15_isRoom : GoodIn wsX15_addHatch (wsV RX15 63 RX15 yX15_isRoom wsX15_isRoom) := goodIn_app (goodIn_of _ (by decide +kernel)) ggX15_addHatch_X15_isRoom
set_option maxRecDepth 20000 in
theorem ggX15_addHatch_X15_no : GoodIn wsX15_addHatch wsX15_no := goodIn_r _ [24, 25, 89, 90] (by decide +kernel) (by decide +kernel)
set_option maxRecDepth 20000 in
theorem gX15_addHatch_X15_no : GoodIn wsX15_addHatch (wsV RX15 43 RX15 yX15_no wsX15_no) := goodIn_app (goodIn_of _ (by decide +kernel)) ggX15_addHatch_X15_no
set_option maxRecDepth 20000 in
theorem ggX15_addHatch_Jx4a65c_size_8abf5 : GoodIn wsX15_addHatch wsJx4a65c_size_8abf5 := goodIn_r _ [16, 17, 108, 109, 110] (by decide +kernel) (by decide +kernel)
set_option maxRecDepth 20000 in
theorem gX15_addHatch_Jx4a65c_size_8abf5_f24Jx4a65c : GoodIn wsX15_addHatch (va_wsF RX15 24 RJx4a65c ⟨"java/util/List", "size", "()I"⟩ yJx4a65c_size_8abf5 wsJx4a65c_size_8abf5) := goodIn_app (goodIn_of _ (by decide +kernel)) ggX15_addHatch_Jx4a65c_size_8abf5
set_option maxRecDepth 20000 in
theorem ggX15_addHatch_X11_init : GoodIn wsX15_addHatch wsX11_init := goodIn_r _ [28, 29, 30, 31, 32, 33, 34, 105, 106, 107] (by decide +kernel) (by decide +kernel)
set_option maxRecDepth 20000 in
theorem gX15_addHatch_X11_init : GoodIn wsX15_addHatch (wsX11_init) := ggX15_addHatch_X11_init
set_option maxRecDepth 20000 in
theorem ggX15_addHatch_Jx4a65c_add_9ea2d : GoodIn wsX15_addHatch wsJx4a65c_add_9ea2d := goodIn_r _ [38, 39, 40, 41, 17, 42, 43, 44, 15, 45, 46, 47, 48, 49, 50, 51, 52, 53, 54, 55, 56, 57, 58, 59, 60, 61, 62, 63, 64, 65, 66, 67, 68, 69, 70, 71, 72, 73, 74, 75, 76, 77, 78, 79, 80, 81, 82, 83, 84, 85, 86, 87, 88, 108, 109, 110] (by decide +kernel) (by decide +kernel)
set_option maxRecDepth 20000 in
theorem gX15_addHatch_Jx4a65c_add_9ea2d_f53Jx4a65c : GoodIn wsX15_addHatch (va_wsF RX15 53 RJx4a65c ⟨"java/util/List", "add", "(Ljava/lang/Object;)Z"⟩ yJx4a65c_add_9ea2d wsJx4a65c_add_9ea2d) := goodIn_app (goodIn_of _ (by decide +kernel)) ggX15_addHatch_Jx4a65c_add_9ea2d
theorem dX15_addHatch_0 : decode cX15_addHatch 0 = .ok (.aload_n 0, 1) := by decide +kernel
theorem dX15_addHatch_1 : decode cX15_addHatch 1 = .ok (.aload_n 0, 1) := by decide +kernel
theorem dX15_addHatch_2 : decode cX15_addHatch 2 = .ok (.iload_n 1, 1) := by decide +kernel
theorem dX15_addHatch_3 : decode cX15_addHatch 3 = .ok (.invokevirtual 63, 3) := by decide +kernel
theorem dX15_addHatch_6 : decode cX15_addHatch 6 = .ok (.ifCond .eq 15, 3) := by decide +kernel
theorem dX15_addHatch_9 : decode cX15_addHatch 9 = .ok (.aload_n 0, 1) := by decide +kernel
theorem dX15_addHatch_10 : decode cX15_addHatch 10 = .ok (.iload_n 2, 1) := by decide +kernel
theorem dX15_addHatch_11 : decode cX15_addHatch 11 = .ok (.invokevirtual 63, 3) := by decide +kernel
theorem dX15_addHatch_14 : decode cX15_addHatch 14 = .ok (.ifCond .eq 7, 3) := by decide +kernel
theorem dX15_addHatch_17 : decode cX15_addHatch 17 = .ok (.iconst 1, 1) := by decide +kernel
theorem dX15_addHatch_18 : decode cX15_addHatch 18 = .ok (.goto 4, 3) := by decide +kernel
theorem dX15_addHatch_21 : decode cX15_addHatch 21 = .ok (.iconst 0, 1) := by decide +kernel
theorem dX15_addHatch_22 : decode cX15_addHatch 22 = .ok (.iconst 1, 1) := by decide +kernel
theorem dX15_addHatch_23 : decode cX15_addHatch 23 = .ok (.invokevirtual 43, 3) := by decide +kernel
theorem dX15_addHatch_26 : decode cX15_addHatch 26 = .ok (.ifCond .ne 51, 3) := by decide +kernel
theorem dX15_addHatch_29 : decode cX15_addHatch 29 = .ok (.aload_n 0, 1) := by decide +kernel
theorem dX15_addHatch_30 : decode cX15_addHatch 30 = .ok (.iload_n 1, 1) := by decide +kernel
theorem dX15_addHatch_31 : decode cX15_addHatch 31 = .ok (.iload_n 2, 1) := by decide +kernel
theorem dX15_addHatch_32 : decode cX15_addHatch 32 = .ok (.if_icmp .eq 7, 3) := by decide +kernel
theorem dX15_addHatch_35 : decode cX15_addHatch 35 = .ok (.iconst 1, 1) := by decide +kernel
theorem dX15_addHatch_36 : decode cX15_addHatch 36 = .ok (.goto 4, 3) := by decide +kernel
theorem dX15_addHatch_39 : decode cX15_addHatch 39 = .ok (.iconst 0, 1) := by decide +kernel
theorem dX15_addHatch_40 : decode cX15_addHatch 40 = .ok (.iconst 2, 1) := by decide +kernel
theorem dX15_addHatch_41 : decode cX15_addHatch 41 = .ok (.invokevirtual 43, 3) := by decide +kernel
theorem dX15_addHatch_44 : decode cX15_addHatch 44 = .ok (.ifCond .ne 33, 3) := by decide +kernel
theorem dX15_addHatch_47 : decode cX15_addHatch 47 = .ok (.aload_n 0, 1) := by decide +kernel
theorem dX15_addHatch_48 : decode cX15_addHatch 48 = .ok (.aload_n 0, 1) := by decide +kernel
theorem dX15_addHatch_49 : decode cX15_addHatch 49 = .ok (.getfield 10, 3) := by decide +kernel
theorem dX15_addHatch_52 : decode cX15_addHatch 52 = .ok (.getfield 34, 3) := by decide +kernel
theorem dX15_addHatch_55 : decode cX15_addHatch 55 = .ok (.invokeinterface 24 1, 5) := by decide +kernel
theorem dX15_addHatch_60 : decode cX15_addHatch 60 = .ok (.bipush 8, 2) := by decide +kernel
theorem dX15_addHatch_62 : decode cX15_addHatch 62 = .ok (.if_icmp .ge 7, 3) := by decide +kernel
theorem dX15_addHatch_65 : decode cX15_addHatch 65 = .ok (.iconst 1, 1) := by decide +kernel
theorem dX15_addHatch_66 : decode cX15_addHatch 66 = .ok (.goto 4, 3) := by decide +kernel
theorem dX15_addHatch_69 : decode cX15_addHatch 69 = .ok (.iconst 0, 1) := by decide +kernel
theorem dX15_addHatch_70 : decode cX15_addHatch 70 = .ok (.iconst 3, 1) := by decide +kernel
theorem dX15_addHatch_71 : decode cX15_addHatch 71 = .ok (.invokevirtual 43, 3) := by decide +kernel
theorem dX15_addHatch_74 : decode cX15_addHatch 74 = .ok (.ifCond .eq 5, 3) := by decide +kernel
theorem dX15_addHatch_77 : decode cX15_addHatch 77 = .ok (.iconst 0, 1) := by decide +kernel
theorem dX15_addHatch_78 : decode cX15_addHatch 78 = .ok (.ireturn, 1) := by decide +kernel
theorem dX15_addHatch_79 : decode cX15_addHatch 79 = .ok (.aload_n 0, 1) := by decide +kernel
theorem dX15_addHatch_80 : decode cX15_addHatch 80 = .ok (.getfield 10, 3) := by decide +kernel
theorem dX15_addHatch_83 : decode cX15_addHatch 83 = .ok (.getfield 34, 3) := by decide +kernel
theorem dX15_addHatch_86 : decode cX15_addHatch 86 = .ok (.new 67, 3) := by decide +kernel
theorem dX15_addHatch_89 : decode cX15_addHatch 89 = .ok (.dup, 1) := by decide +kernel
theorem dX15_addHatch_90 : decode cX15_addHatch 90 = .ok (.iload_n 1, 1) := by decide +kernel
theorem dX15_addHatch_91 : decode cX15_addHatch 91 = .ok (.iload_n 2, 1) := by decide +kernel
theorem dX15_addHatch_92 : decode cX15_addHatch 92 = .ok (.invokespecial 69, 3) := by decide +kernel
theorem dX15_addHatch_95 : decode cX15_addHatch 95 = .ok (.invokeinterface 53 2, 5) := by decide +kernel
theorem dX15_addHatch_100 : decode cX15_addHatch 100 = .ok (.pop, 1) := by decide +kernel
theorem dX15_addHatch_101 : decode cX15_addHatch 101 = .ok (.aload_n 0, 1) := by decide +kernel
theorem dX15_addHatch_102 : decode cX15_addHatch 102 = .ok (.getfield 10, 3) := by decide +kernel
theorem dX15_addHatch_105 : decode cX15_addHatch 105 = .ok (.getfield 34, 3) := by decide +kernel
theorem dX15_addHatch_108 : decode cX15_addHatch 108 = .ok (.invokeinterface 24 1, 5) := by decide +kernel
theorem dX15_addHatch_113 : decode cX15_addHatch 113 = .ok (.iconst 1, 1) := by decide +kernel
theorem dX15_addHatch_114 : decode cX15_addHatch 114 = .ok (.isub, 1) := by decide +kernel
theorem dX15_addHatch_115 : decode cX15_addHatch 115 = .ok (.ireturn, 1) := by decide +kernel
set_option maxRecDepth 20000 in
theorem ggX15_setHatch_X15_isHatch : GoodIn wsX15_setHatch wsX15_isHatch := goodIn_r _ [9, 1, 2, 10, 11, 12, 13, 14, 15, 16, 17, 8, 18, 41, 42, 43, 44, 45, 46, 47, 48, 49, 50, 51, 52, 53, 54, 55, 56, 60, 61, 62] (by decide +kernel) (by decide +kernel)
set_option maxRecDepth 20000 in
theorem gX15_setHatch_X15_isHatch : GoodIn wsX15_setHatch (wsV RX15 72 RX15 yX15_isHatch wsX15_isHatch) := goodIn_app (goodIn_of _ (by decide +kernel)) ggX15_setHatch_X15_isHatch
set_option maxRecDepth 20000 in
theorem ggX15_setHatch_X15_no : GoodIn wsX15_setHatch wsX15_no := goodIn_r _ [22, 23, 41, 42] (by decide +kernel) (by decide +kernel)
set_option maxRecDepth 20000 in
theorem gX15_setHatch_X15_no : GoodIn wsX15_setHatch (wsV RX15 43 RX15 yX15_no wsX15_no) := goodIn_app (goodIn_of _ (by decide +kernel)) ggX15_setHatch_X15_no
set_option maxRecDepth 20000 in
theorem ggX15_setHatch_Jx4a65c_get_915e3 : GoodIn wsX15_setHatch wsJx4a65c_get_915e3 := goodIn_r _ [27, 15, 28, 29, 30, 31, 32, 33, 34, 35, 36, 37, 38, 13, 39, 40, 60, 61, 62] (by decide +kernel) (by decide +kernel)
set_option maxRecDepth 20000 in
theorem gX15_setHatch_Jx4a65c_get_915e3_f75Jx4a65c : GoodIn wsX15_setHatch (va_wsF RX15 75 RJx4a65c ⟨"java/util/List", "get", "(I)Ljava/lang/Object;"⟩ yJx4a65c_get_915e3 wsJx4a65c_get_915e3) := goodIn_app (goodIn_of _ (by decide +kernel)) ggX15_setHatch_Jx4a65c_get_915e3
theorem dX15_setHatch_0 : decode cX15_setHatch 0 = .ok (.aload_n 0, 1) := by decide +kernel
theorem dX15_setHatch_1 : decode cX15_setHatch 1 = .ok (.aload_n 0, 1) := by decide +kernel
theorem dX15_setHatch_2 : decode cX15_setHatch 2 = .ok (.iload_n 1, 1) := by decide +kernel
theorem dX15_setHatch_3 : decode cX15_setHatch 3 = .ok (.invokevirtual 72, 3) := by decide +kernel
theorem dX15_setHatch_6 : decode cX15_setHatch 6 = .ok (.iconst 1, 1) := by decide +kernel
theorem dX15_setHatch_7 : decode cX15_setHatch 7 = .ok (.invokevirtual 43, 3) := by decide +kernel
theorem dX15_setHatch_10 : decode cX15_setHatch 10 = .ok (.ifCond .eq 5, 3) := by decide +kernel
theorem dX15_setHatch_13 : decode cX15_setHatch 13 = .ok (.iconst 0, 1) := by decide +kernel
theorem dX15_setHatch_14 : decode cX15_setHatch 14 = .ok (.ireturn, 1) := by decide +kernel
theorem dX15_setHatch_15 : decode cX15_setHatch 15 = .ok (.aload_n 0, 1) := by decide +kernel
theorem dX15_setHatch_16 : decode cX15_setHatch 16 = .ok (.getfield 10, 3) := by decide +kernel
theorem dX15_setHatch_19 : decode cX15_setHatch 19 = .ok (.getfield 34, 3) := by decide +kernel
theorem dX15_setHatch_22 : decode cX15_setHatch 22 = .ok (.iload_n 1, 1) := by decide +kernel
theorem dX15_setHatch_23 : decode cX15_setHatch 23 = .ok (.invokeinterface 75 2, 5) := by decide +kernel
theorem dX15_setHatch_28 : decode cX15_setHatch 28 = .ok (.checkcast 67, 3) := by decide +kernel
theorem dX15_setHatch_31 : decode cX15_setHatch 31 = .ok (.getfield 79, 3) := by decide +kernel
theorem dX15_setHatch_34 : decode cX15_setHatch 34 = .ok (.istore_n 3, 1) := by decide +kernel
theorem dX15_setHatch_35 : decode cX15_setHatch 35 = .ok (.aload_n 0, 1) := by decide +kernel
theorem dX15_setHatch_36 : decode cX15_setHatch 36 = .ok (.getfield 10, 3) := by decide +kernel
theorem dX15_setHatch_39 : decode cX15_setHatch 39 = .ok (.getfield 34, 3) := by decide +kernel
theorem dX15_setHatch_42 : decode cX15_setHatch 42 = .ok (.iload_n 1, 1) := by decide +kernel
theorem dX15_setHatch_43 : decode cX15_setHatch 43 = .ok (.invokeinterface 75 2, 5) := by decide +kernel
theorem dX15_setHatch_48 : decode cX15_setHatch 48 = .ok (.checkcast 67, 3) := by decide +kernel
theorem dX15_setHatch_51 : decode cX15_setHatch 51 = .ok (.iload_n 2, 1) := by decide +kernel
theorem dX15_setHatch_52 : decode cX15_setHatch 52 = .ok (.putfield 79, 3) := by decide +kernel
theorem dX15_setHatch_55 : decode cX15_setHatch 55 = .ok (.iload_n 3, 1) := by decide +kernel
theorem dX15_setHatch_56 : decode cX15_setHatch 56 = .ok (.ireturn, 1) := by decide +kernel
set_option maxRecDepth 20000 in
theorem ggX15_setLeak_X15_isRoom : GoodIn wsX15_setLeak wsX15_isRoom := goodIn_r _ [8, 1, 9, 10, 11, 12, 13, 14, 15, 16, 17, 7, 18, 64, 65, 66, 67, 68, 69, 70, 71, 72, 73, 74, 75, 76, 77, 78, 79, 80, 81, 82] (by decide +kernel) (by decide +kernel)
set_option maxRecDepth 20000 in
theorem gX15_setLeak_X15_isRoom : GoodIn wsX15_setLeak (wsV RX15 63 RX15 yX15_isRoom wsX15_isRoom) := goodIn_app (goodIn_of _ (by decide +kernel)) ggX15_setLeak_X15_isRoom
set_option maxRecDepth 20000 in
theorem ggX15_setLeak_X15_no : GoodIn wsX15_setLeak wsX15_no := goodIn_r _ [22, 23, 64, 65] (by decide +kernel) (by decide +kernel)
set_option maxRecDepth 20000 in
theorem gX15_setLeak_X15_no : GoodIn wsX15_setLeak (wsV RX15 43 RX15 yX15_no wsX15_no) := goodIn_app (goodIn_of _ (by decide +kernel)) ggX15_setLeak_X15_no
set_option maxRecDepth 20000 in
theorem ggX15_setLeak_X15_isIn : GoodIn wsX15_setLeak wsX15_isIn := goodIn_r _ [18] (by decide +kernel) (by decide +kernel)
set_option maxRecDepth 20000 in
theorem gX15_setLeak_X15_isIn : GoodIn wsX15_setLeak (va_wsS RX15 30 yX15_isIn wsX15_isIn) := goodIn_app (goodIn_of _ (by decide +kernel)) ggX15_setLeak_X15_isIn
set_option maxRecDepth 20000 in
theorem ggX15_setLeak_J6_valueOf_2dffe : GoodIn wsX15_setLeak wsJ6_valueOf_2dffe := goodIn_r _ [27, 28, 29, 30, 31, 26, 32, 33, 34, 35, 36, 37, 38, 39, 40, 41, 42, 83] (by decide +kernel) (by decide +kernel)
set_option maxRecDepth 20000 in
theorem gX15_setLeak_J6_valueOf_2dffe : GoodIn wsX15_setLeak (va_wsS RX15 47 yJ6_valueOf_2dffe wsJ6_valueOf_2dffe) := goodIn_app (goodIn_of _ (by decide +kernel)) ggX15_setLeak_J6_valueOf_2dffe
set_option maxRecDepth 20000 in
theorem ggX15_setLeak_Jx4a65c_set_bcc79 : GoodIn wsX15_setLeak wsJx4a65c_set_bcc79 := goodIn_r _ [46, 15, 47, 48, 49, 50, 51, 52, 53, 54, 55, 56, 57, 58, 13, 59, 80, 81, 82] (by decide +kernel) (by decide +kernel)
set_option maxRecDepth 20000 in
theorem gX15_setLeak_Jx4a65c_set_bcc79_f83Jx4a65c : GoodIn wsX15_setLeak (va_wsF RX15 83 RJx4a65c ⟨"java/util/List", "set", "(ILjava/lang/Object;)Ljava/lang/Object;"⟩ yJx4a65c_set_bcc79 wsJx4a65c_set_bcc79) := goodIn_app (goodIn_of _ (by decide +kernel)) ggX15_setLeak_Jx4a65c_set_bcc79
set_option maxRecDepth 20000 in
theorem ggX15_setLeak_J6_intValue_8abf5 : GoodIn wsX15_setLeak wsJ6_intValue_8abf5 := goodIn_r _ [63, 35, 83] (by decide +kernel) (by decide +kernel)
set_option maxRecDepth 20000 in
theorem gX15_setLeak_J6_intValue_8abf5 : GoodIn wsX15_setLeak (wsV RX15 87 RJ6 yJ6_intValue_8abf5 wsJ6_intValue_8abf5) := goodIn_app (goodIn_of _ (by decide +kernel)) ggX15_setLeak_J6_intValue_8abf5
theorem dX15_setLeak_0 : decode cX15_setLeak 0 = .ok (.aload_n 0, 1) := by decide +kernel
theorem dX15_setLeak_1 : decode cX15_setLeak 1 = .ok (.aload_n 0, 1) := by decide +kernel
theorem dX15_setLeak_2 : decode cX15_setLeak 2 = .ok (.iload_n 1, 1) := by decide +kernel
theorem dX15_setLeak_3 : decode cX15_setLeak 3 = .ok (.invokevirtual 63, 3) := by decide +kernel
theorem dX15_setLeak_6 : decode cX15_setLeak 6 = .ok (.iconst 1, 1) := by decide +kernel
theorem dX15_setLeak_7 : decode cX15_setLeak 7 = .ok (.invokevirtual 43, 3) := by decide +kernel
theorem dX15_setLeak_10 : decode cX15_setLeak 10 = .ok (.ifCond .ne 18, 3) := by decide +kernel
theorem dX15_setLeak_13 : decode cX15_setLeak 13 = .ok (.aload_n 0, 1) := by decide +kernel
theorem dX15_setLeak_14 : decode cX15_setLeak 14 = .ok (.iload_n 2, 1) := by decide +kernel
theorem dX15_setLeak_15 : decode cX15_setLeak 15 = .ok (.iconst 0, 1) := by decide +kernel
theorem dX15_setLeak_16 : decode cX15_setLeak 16 = .ok (.bipush 9, 2) := by decide +kernel
theorem dX15_setLeak_18 : decode cX15_setLeak 18 = .ok (.invokestatic 30, 3) := by decide +kernel
theorem dX15_setLeak_21 : decode cX15_setLeak 21 = .ok (.iconst 2, 1) := by decide +kernel
theorem dX15_setLeak_22 : decode cX15_setLeak 22 = .ok (.invokevirtual 43, 3) := by decide +kernel
theorem dX15_setLeak_25 : decode cX15_setLeak 25 = .ok (.ifCond .eq 7, 3) := by decide +kernel
theorem dX15_setLeak_28 : decode cX15_setLeak 28 = .ok (.iconst 0, 1) := by decide +kernel
theorem dX15_setLeak_29 : decode cX15_setLeak 29 = .ok (.goto 26, 3) := by decide +kernel
theorem dX15_setLeak_32 : decode cX15_setLeak 32 = .ok (.aload_n 0, 1) := by decide +kernel
theorem dX15_setLeak_33 : decode cX15_setLeak 33 = .ok (.getfield 10, 3) := by decide +kernel
theorem dX15_setLeak_36 : decode cX15_setLeak 36 = .ok (.getfield 60, 3) := by decide +kernel
theorem dX15_setLeak_39 : decode cX15_setLeak 39 = .ok (.iload_n 1, 1) := by decide +kernel
theorem dX15_setLeak_40 : decode cX15_setLeak 40 = .ok (.iload_n 2, 1) := by decide +kernel
theorem dX15_setLeak_41 : decode cX15_setLeak 41 = .ok (.invokestatic 47, 3) := by decide +kernel
theorem dX15_setLeak_44 : decode cX15_setLeak 44 = .ok (.invokeinterface 83 3, 5) := by decide +kernel
theorem dX15_setLeak_49 : decode cX15_setLeak 49 = .ok (.checkcast 48, 3) := by decide +kernel
theorem dX15_setLeak_52 : decode cX15_setLeak 52 = .ok (.invokevirtual 87, 3) := by decide +kernel
theorem dX15_setLeak_55 : decode cX15_setLeak 55 = .ok (.ireturn, 1) := by decide +kernel
set_option maxRecDepth 20000 in
theorem ggX15_addDevice_X15_no : GoodIn wsX15_addDevice wsX15_no := goodIn_r _ [10, 11, 90, 91] (by decide +kernel) (by decide +kernel)
set_option maxRecDepth 20000 in
theorem gX15_addDevice_X15_no : GoodIn wsX15_addDevice (wsV RX15 43 RX15 yX15_no wsX15_no) := goodIn_app (goodIn_of _ (by decide +kernel)) ggX15_addDevice_X15_no
set_option maxRecDepth 20000 in
theorem ggX15_addDevice_X15_isRoom : GoodIn wsX15_addDevice wsX15_isRoom := goodIn_r _ [15, 1, 16, 17, 18, 19, 20, 21, 22, 23, 24, 9, 25, 90, 91, 92, 93, 94, 95, 96, 97, 98, 99, 100, 101, 102, 103, 104, 105, 110, 111, 112] (by decide +kernel) (by decide +kernel)
set_option maxRecDepth 20000 in
theorem gX15_addDevice_X15_isRoom : GoodIn wsX15_addDevice (wsV RX15 63 RX15 yX15_isRoom wsX15_isRoom) := goodIn_app (goodIn_of _ (by decide +kernel)) ggX15_addDevice_X15_isRoom
set_option maxRecDepth 20000 in
theorem ggX15_addDevice_Jx4a65c_size_8abf5 : GoodIn wsX15_addDevice wsJx4a65c_size_8abf5 := goodIn_r _ [21, 22, 110, 111, 112] (by decide +kernel) (by decide +kernel)
set_option maxRecDepth 20000 in
theorem gX15_addDevice_Jx4a65c_size_8abf5_f24Jx4a65c : GoodIn wsX15_addDevice (va_wsF RX15 24 RJx4a65c ⟨"java/util/List", "size", "()I"⟩ yJx4a65c_size_8abf5 wsJx4a65c_size_8abf5) := goodIn_app (goodIn_of _ (by decide +kernel)) ggX15_addDevice_Jx4a65c_size_8abf5
set_option maxRecDepth 20000 in
theorem ggX15_addDevice_X10_init : GoodIn wsX15_addDevice wsX10_init := goodIn_r _ [28, 29, 30, 31, 32, 33, 34, 35, 106, 107, 108, 109] (by decide +kernel) (by decide +kernel)
set_option maxRecDepth 20000 in
theorem gX15_addDevice_X10_init : GoodIn wsX15_addDevice (wsX10_init) := ggX15_addDevice_X10_init
set_option maxRecDepth 20000 in
theorem ggX15_addDevice_Jx4a65c_add_9ea2d : GoodIn wsX15_addDevice wsJx4a65c_add_9ea2d := goodIn_r _ [39, 40, 41, 42, 22, 43, 44, 45, 20, 46, 47, 48, 49, 50, 51, 52, 53, 54, 55, 56, 57, 58, 59, 60, 61, 62, 63, 64, 65, 66, 67, 68, 69, 70, 71, 72, 73, 74, 75, 76, 77, 78, 79, 80, 81, 82, 83, 84, 85, 86, 87, 88, 89, 110, 111, 112] (by decide +kernel) (by decide +kernel)
set_option maxRecDepth 20000 in
theorem gX15_addDevice_Jx4a65c_add_9ea2d_f53Jx4a65c : GoodIn wsX15_addDevice (va_wsF RX15 53 RJx4a65c ⟨"java/util/List", "add", "(Ljava/lang/Object;)Z"⟩ yJx4a65c_add_9ea2d wsJx4a65c_add_9ea2d) := goodIn_app (goodIn_of _ (by decide +kernel)) ggX15_addDevice_Jx4a65c_add_9ea2d
theorem dX15_addDevice_0 : decode cX15_addDevice 0 = .ok (.aload_n 0, 1) := by decide +kernel
theorem dX15_addDevice_1 : decode cX15_addDevice 1 = .ok (.iload_n 1, 1) := by decide +kernel
theorem dX15_addDevice_2 : decode cX15_addDevice 2 = .ok (.bipush 115, 2) := by decide +kernel
theorem dX15_addDevice_4 : decode cX15_addDevice 4 = .ok (.if_icmp .eq 15, 3) := by decide +kernel
theorem dX15_addDevice_7 : decode cX15_addDevice 7 = .ok (.iload_n 1, 1) := by decide +kernel
theorem dX15_addDevice_8 : decode cX15_addDevice 8 = .ok (.bipush 101, 2) := by decide +kernel
theorem dX15_addDevice_10 : decode cX15_addDevice 10 = .ok (.if_icmp .eq 9, 3) := by decide +kernel
theorem dX15_addDevice_13 : decode cX15_addDevice 13 = .ok (.iload_n 1, 1) := by decide +kernel
theorem dX15_addDevice_14 : decode cX15_addDevice 14 = .ok (.bipush 108, 2) := by decide +kernel
theorem dX15_addDevice_16 : decode cX15_addDevice 16 = .ok (.if_icmp .ne 7, 3) := by decide +kernel
theorem dX15_addDevice_19 : decode cX15_addDevice 19 = .ok (.iconst 1, 1) := by decide +kernel
theorem dX15_addDevice_20 : decode cX15_addDevice 20 = .ok (.goto 4, 3) := by decide +kernel
theorem dX15_addDevice_23 : decode cX15_addDevice 23 = .ok (.iconst 0, 1) := by decide +kernel
theorem dX15_addDevice_24 : decode cX15_addDevice 24 = .ok (.iconst 1, 1) := by decide +kernel
theorem dX15_addDevice_25 : decode cX15_addDevice 25 = .ok (.invokevirtual 43, 3) := by decide +kernel
theorem dX15_addDevice_28 : decode cX15_addDevice 28 = .ok (.ifCond .ne 46, 3) := by decide +kernel
theorem dX15_addDevice_31 : decode cX15_addDevice 31 = .ok (.aload_n 0, 1) := by decide +kernel
theorem dX15_addDevice_32 : decode cX15_addDevice 32 = .ok (.aload_n 0, 1) := by decide +kernel
theorem dX15_addDevice_33 : decode cX15_addDevice 33 = .ok (.iload_n 2, 1) := by decide +kernel
theorem dX15_addDevice_34 : decode cX15_addDevice 34 = .ok (.invokevirtual 63, 3) := by decide +kernel
theorem dX15_addDevice_37 : decode cX15_addDevice 37 = .ok (.iconst 2, 1) := by decide +kernel
theorem dX15_addDevice_38 : decode cX15_addDevice 38 = .ok (.invokevirtual 43, 3) := by decide +kernel
theorem dX15_addDevice_41 : decode cX15_addDevice 41 = .ok (.ifCond .ne 33, 3) := by decide +kernel
theorem dX15_addDevice_44 : decode cX15_addDevice 44 = .ok (.aload_n 0, 1) := by decide +kernel
theorem dX15_addDevice_45 : decode cX15_addDevice 45 = .ok (.aload_n 0, 1) := by decide +kernel
theorem dX15_addDevice_46 : decode cX15_addDevice 46 = .ok (.getfield 10, 3) := by decide +kernel
theorem dX15_addDevice_49 : decode cX15_addDevice 49 = .ok (.getfield 37, 3) := by decide +kernel
theorem dX15_addDevice_52 : decode cX15_addDevice 52 = .ok (.invokeinterface 24 1, 5) := by decide +kernel
theorem dX15_addDevice_57 : decode cX15_addDevice 57 = .ok (.bipush 8, 2) := by decide +kernel
theorem dX15_addDevice_59 : decode cX15_addDevice 59 = .ok (.if_icmp .ge 7, 3) := by decide +kernel
theorem dX15_addDevice_62 : decode cX15_addDevice 62 = .ok (.iconst 1, 1) := by decide +kernel
theorem dX15_addDevice_63 : decode cX15_addDevice 63 = .ok (.goto 4, 3) := by decide +kernel
theorem dX15_addDevice_66 : decode cX15_addDevice 66 = .ok (.iconst 0, 1) := by decide +kernel
theorem dX15_addDevice_67 : decode cX15_addDevice 67 = .ok (.iconst 3, 1) := by decide +kernel
theorem dX15_addDevice_68 : decode cX15_addDevice 68 = .ok (.invokevirtual 43, 3) := by decide +kernel
theorem dX15_addDevice_71 : decode cX15_addDevice 71 = .ok (.ifCond .eq 5, 3) := by decide +kernel
theorem dX15_addDevice_74 : decode cX15_addDevice 74 = .ok (.iconst 0, 1) := by decide +kernel
theorem dX15_addDevice_75 : decode cX15_addDevice 75 = .ok (.ireturn, 1) := by decide +kernel
theorem dX15_addDevice_76 : decode cX15_addDevice 76 = .ok (.aload_n 0, 1) := by decide +kernel
theorem dX15_addDevice_77 : decode cX15_addDevice 77 = .ok (.getfield 10, 3) := by decide +kernel
theorem dX15_addDevice_80 : decode cX15_addDevice 80 = .ok (.getfield 37, 3) := by decide +kernel
theorem dX15_addDevice_83 : decode cX15_addDevice 83 = .ok (.new 90, 3) := by decide +kernel
theorem dX15_addDevice_86 : decode cX15_addDevice 86 = .ok (.dup, 1) := by decide +kernel
theorem dX15_addDevice_87 : decode cX15_addDevice 87 = .ok (.iload_n 1, 1) := by decide +kernel
theorem dX15_addDevice_88 : decode cX15_addDevice 88 = .ok (.iload_n 2, 1) := by decide +kernel
theorem dX15_addDevice_89 : decode cX15_addDevice 89 = .ok (.invokespecial 92, 3) := by decide +kernel
theorem dX15_addDevice_92 : decode cX15_addDevice 92 = .ok (.invokeinterface 53 2, 5) := by decide +kernel
theorem dX15_addDevice_97 : decode cX15_addDevice 97 = .ok (.pop, 1) := by decide +kernel
theorem dX15_addDevice_98 : decode cX15_addDevice 98 = .ok (.aload_n 0, 1) := by decide +kernel
theorem dX15_addDevice_99 : decode cX15_addDevice 99 = .ok (.getfield 10, 3) := by decide +kernel
theorem dX15_addDevice_102 : decode cX15_addDevice 102 = .ok (.getfield 37, 3) := by decide +kernel
theorem dX15_addDevice_105 : decode cX15_addDevice 105 = .ok (.invokeinterface 24 1, 5) := by decide +kernel
theorem dX15_addDevice_110 : decode cX15_addDevice 110 = .ok (.iconst 1, 1) := by decide +kernel
theorem dX15_addDevice_111 : decode cX15_addDevice 111 = .ok (.isub, 1) := by decide +kernel
theorem dX15_addDevice_112 : decode cX15_addDevice 112 = .ok (.ireturn, 1) := by decide +kernel
set_option maxRecDepth 20000 in
theorem ggX15_setDevice_X15_isDevice : GoodIn wsX15_setDevice wsX15_isDevice := goodIn_r _ [11, 1, 2, 12, 13, 14, 15, 16, 17, 18, 19, 10, 20, 43, 44, 45, 46, 47, 48, 49, 50, 51, 52, 53, 54, 55, 56, 57, 58, 63, 64, 65] (by decide +kernel) (by decide +kernel)
set_option maxRecDepth 20000 in
theorem gX15_setDevice_X15_isDevice : GoodIn wsX15_setDevice (wsV RX15 95 RX15 yX15_isDevice wsX15_isDevice) := goodIn_app (goodIn_of _ (by decide +kernel)) ggX15_setDevice_X15_isDevice
set_option maxRecDepth 20000 in
theorem ggX15_setDevice_X15_no : GoodIn wsX15_setDevice wsX15_no := goodIn_r _ [24, 25, 43, 44] (by decide +kernel) (by decide +kernel)
set_option maxRecDepth 20000 in
theorem gX15_setDevice_X15_no : GoodIn wsX15_setDevice (wsV RX15 43 RX15 yX15_no wsX15_no) := goodIn_app (goodIn_of _ (by decide +kernel)) ggX15_setDevice_X15_no
set_option maxRecDepth 20000 in
theorem ggX15_setDevice_Jx4a65c_get_915e3 : GoodIn wsX15_setDevice wsJx4a65c_get_915e3 := goodIn_r _ [29, 17, 30, 31, 32, 33, 34, 35, 36, 37, 38, 39, 40, 15, 41, 42, 63, 64, 65] (by decide +kernel) (by decide +kernel)
set_option maxRecDepth 20000 in
theorem gX15_setDevice_Jx4a65c_get_915e3_f75Jx4a65c : GoodIn wsX15_setDevice (va_wsF RX15 75 RJx4a65c ⟨"java/util/List", "get", "(I)Ljava/lang/Object;"⟩ yJx4a65c_get_915e3 wsJx4a65c_get_915e3) := goodIn_app (goodIn_of _ (by decide +kernel)) ggX15_setDevice_Jx4a65c_get_915e3
theorem dX15_setDevice_0 : decode cX15_setDevice 0 = .ok (.aload_n 0, 1) := by decide +kernel
theorem dX15_setDevice_1 : decode cX15_setDevice 1 = .ok (.aload_n 0, 1) := by decide +kernel
theorem dX15_setDevice_2 : decode cX15_setDevice 2 = .ok (.iload_n 1, 1) := by decide +kernel
theorem dX15_setDevice_3 : decode cX15_setDevice 3 = .ok (.invokevirtual 95, 3) := by decide +kernel
theorem dX15_setDevice_6 : decode cX15_setDevice 6 = .ok (.iconst 1, 1) := by decide +kernel
theorem dX15_setDevice_7 : decode cX15_setDevice 7 = .ok (.invokevirtual 43, 3) := by decide +kernel
theorem dX15_setDevice_10 : decode cX15_setDevice 10 = .ok (.ifCond .eq 5, 3) := by decide +kernel
theorem dX15_setDevice_13 : decode cX15_setDevice 13 = .ok (.iconst 0, 1) := by decide +kernel
theorem dX15_setDevice_14 : decode cX15_setDevice 14 = .ok (.ireturn, 1) := by decide +kernel
theorem dX15_setDevice_15 : decode cX15_setDevice 15 = .ok (.aload_n 0, 1) := by decide +kernel
theorem dX15_setDevice_16 : decode cX15_setDevice 16 = .ok (.getfield 10, 3) := by decide +kernel
theorem dX15_setDevice_19 : decode cX15_setDevice 19 = .ok (.getfield 37, 3) := by decide +kernel
theorem dX15_setDevice_22 : decode cX15_setDevice 22 = .ok (.iload_n 1, 1) := by decide +kernel
theorem dX15_setDevice_23 : decode cX15_setDevice 23 = .ok (.invokeinterface 75 2, 5) := by decide +kernel
theorem dX15_setDevice_28 : decode cX15_setDevice 28 = .ok (.checkcast 90, 3) := by decide +kernel
theorem dX15_setDevice_31 : decode cX15_setDevice 31 = .ok (.astore_n 3, 1) := by decide +kernel
theorem dX15_setDevice_32 : decode cX15_setDevice 32 = .ok (.aload_n 0, 1) := by decide +kernel
theorem dX15_setDevice_33 : decode cX15_setDevice 33 = .ok (.aload_n 0, 1) := by decide +kernel
theorem dX15_setDevice_34 : decode cX15_setDevice 34 = .ok (.getfield 10, 3) := by decide +kernel
theorem dX15_setDevice_37 : decode cX15_setDevice 37 = .ok (.getfield 98, 3) := by decide +kernel
theorem dX15_setDevice_40 : decode cX15_setDevice 40 = .ok (.ifCond .eq 16, 3) := by decide +kernel
theorem dX15_setDevice_43 : decode cX15_setDevice 43 = .ok (.aload_n 3, 1) := by decide +kernel
theorem dX15_setDevice_44 : decode cX15_setDevice 44 = .ok (.getfield 101, 3) := by decide +kernel
theorem dX15_setDevice_47 : decode cX15_setDevice 47 = .ok (.bipush 108, 2) := by decide +kernel
theorem dX15_setDevice_49 : decode cX15_setDevice 49 = .ok (.if_icmp .ne 7, 3) := by decide +kernel
theorem dX15_setDevice_52 : decode cX15_setDevice 52 = .ok (.iload_n 2, 1) := by decide +kernel
theorem dX15_setDevice_53 : decode cX15_setDevice 53 = .ok (.ifCond .ne 7, 3) := by decide +kernel
theorem dX15_setDevice_56 : decode cX15_setDevice 56 = .ok (.iconst 1, 1) := by decide +kernel
theorem dX15_setDevice_57 : decode cX15_setDevice 57 = .ok (.goto 4, 3) := by decide +kernel
theorem dX15_setDevice_60 : decode cX15_setDevice 60 = .ok (.iconst 0, 1) := by decide +kernel
theorem dX15_setDevice_61 : decode cX15_setDevice 61 = .ok (.iconst 2, 1) := by decide +kernel
theorem dX15_setDevice_62 : decode cX15_setDevice 62 = .ok (.invokevirtual 43, 3) := by decide +kernel
theorem dX15_setDevice_65 : decode cX15_setDevice 65 = .ok (.ifCond .eq 5, 3) := by decide +kernel
theorem dX15_setDevice_68 : decode cX15_setDevice 68 = .ok (.iconst 0, 1) := by decide +kernel
theorem dX15_setDevice_69 : decode cX15_setDevice 69 = .ok (.ireturn, 1) := by decide +kernel
theorem dX15_setDevice_70 : decode cX15_setDevice 70 = .ok (.aload_n 3, 1) := by decide +kernel
theorem dX15_setDevice_71 : decode cX15_setDevice 71 = .ok (.getfield 105, 3) := by decide +kernel
theorem dX15_setDevice_74 : decode cX15_setDevice 74 = .ok (.istore 4, 2) := by decide +kernel
theorem dX15_setDevice_76 : decode cX15_setDevice 76 = .ok (.aload_n 3, 1) := by decide +kernel
theorem dX15_setDevice_77 : decode cX15_setDevice 77 = .ok (.iload_n 2, 1) := by decide +kernel
theorem dX15_setDevice_78 : decode cX15_setDevice 78 = .ok (.putfield 105, 3) := by decide +kernel
theorem dX15_setDevice_81 : decode cX15_setDevice 81 = .ok (.iload 4, 2) := by decide +kernel
theorem dX15_setDevice_83 : decode cX15_setDevice 83 = .ok (.ireturn, 1) := by decide +kernel
set_option maxRecDepth 20000 in
theorem ggX15_setPanels_X15_isIn : GoodIn wsX15_setPanels wsX15_isIn := goodIn_r _ [6] (by decide +kernel) (by decide +kernel)
set_option maxRecDepth 20000 in
theorem gX15_setPanels_X15_isIn : GoodIn wsX15_setPanels (va_wsS RX15 30 yX15_isIn wsX15_isIn) := goodIn_app (goodIn_of _ (by decide +kernel)) ggX15_setPanels_X15_isIn
set_option maxRecDepth 20000 in
theorem ggX15_setPanels_X15_no : GoodIn wsX15_setPanels wsX15_no := goodIn_r _ [10, 11, 12, 13] (by decide +kernel) (by decide +kernel)
set_option maxRecDepth 20000 in
theorem gX15_setPanels_X15_no : GoodIn wsX15_setPanels (wsV RX15 43 RX15 yX15_no wsX15_no) := goodIn_app (goodIn_of _ (by decide +kernel)) ggX15_setPanels_X15_no
theorem dX15_setPanels_0 : decode cX15_setPanels 0 = .ok (.aload_n 0, 1) := by decide +kernel
theorem dX15_setPanels_1 : decode cX15_setPanels 1 = .ok (.iload_n 1, 1) := by decide +kernel
theorem dX15_setPanels_2 : decode cX15_setPanels 2 = .ok (.iconst 0, 1) := by decide +kernel
theorem dX15_setPanels_3 : decode cX15_setPanels 3 = .ok (.bipush 40, 2) := by decide +kernel
theorem dX15_setPanels_5 : decode cX15_setPanels 5 = .ok (.invokestatic 30, 3) := by decide +kernel
theorem dX15_setPanels_8 : decode cX15_setPanels 8 = .ok (.iconst 1, 1) := by decide +kernel
theorem dX15_setPanels_9 : decode cX15_setPanels 9 = .ok (.invokevirtual 43, 3) := by decide +kernel
theorem dX15_setPanels_12 : decode cX15_setPanels 12 = .ok (.ifCond .eq 5, 3) := by decide +kernel
theorem dX15_setPanels_15 : decode cX15_setPanels 15 = .ok (.iconst 0, 1) := by decide +kernel
theorem dX15_setPanels_16 : decode cX15_setPanels 16 = .ok (.ireturn, 1) := by decide +kernel
theorem dX15_setPanels_17 : decode cX15_setPanels 17 = .ok (.aload_n 0, 1) := by decide +kernel
theorem dX15_setPanels_18 : decode cX15_setPanels 18 = .ok (.getfield 10, 3) := by decide +kernel
theorem dX15_setPanels_21 : decode cX15_setPanels 21 = .ok (.getfield 108, 3) := by decide +kernel
theorem dX15_setPanels_24 : decode cX15_setPanels 24 = .ok (.istore_n 2, 1) := by decide +kernel
theorem dX15_setPanels_25 : decode cX15_setPanels 25 = .ok (.aload_n 0, 1) := by decide +kernel
theorem dX15_setPanels_26 : decode cX15_setPanels 26 = .ok (.getfield 10, 3) := by decide +kernel
theorem dX15_setPanels_29 : decode cX15_setPanels 29 = .ok (.iload_n 1, 1) := by decide +kernel
theorem dX15_setPanels_30 : decode cX15_setPanels 30 = .ok (.putfield 108, 3) := by decide +kernel
theorem dX15_setPanels_33 : decode cX15_setPanels 33 = .ok (.iload_n 2, 1) := by decide +kernel
theorem dX15_setPanels_34 : decode cX15_setPanels 34 = .ok (.ireturn, 1) := by decide +kernel
set_option maxRecDepth 20000 in
theorem ggX15_board_X15_isRoom : GoodIn wsX15_board wsX15_isRoom := goodIn_r _ [10, 1, 11, 12, 13, 14, 15, 16, 17, 18, 19, 9, 20, 89, 90, 91, 92, 93, 94, 95, 96, 97, 98, 99, 100, 101, 102, 103, 104, 108, 109, 110] (by decide +kernel) (by decide +kernel)
set_option maxRecDepth 20000 in
theorem gX15_board_X15_isRoom : GoodIn wsX15_board (wsV RX15 63 RX15 yX15_isRoom wsX15_isRoom) := goodIn_app (goodIn_of _ (by decide +kernel)) ggX15_board_X15_isRoom
set_option maxRecDepth 20000 in
theorem ggX15_board_X15_no : GoodIn wsX15_board wsX15_no := goodIn_r _ [24, 25, 89, 90] (by decide +kernel) (by decide +kernel)
set_option maxRecDepth 20000 in
theorem gX15_board_X15_no : GoodIn wsX15_board (wsV RX15 43 RX15 yX15_no wsX15_no) := goodIn_app (goodIn_of _ (by decide +kernel)) ggX15_board_X15_no
set_option maxRecDepth 20000 in
theorem ggX15_board_Jx4a65c_size_8abf5 : GoodIn wsX15_board wsJx4a65c_size_8abf5 := goodIn_r _ [16, 17, 108, 109, 110] (by decide +kernel) (by decide +kernel)
set_option maxRecDepth 20000 in
theorem gX15_board_Jx4a65c_size_8abf5_f24Jx4a65c : GoodIn wsX15_board (va_wsF RX15 24 RJx4a65c ⟨"java/util/List", "size", "()I"⟩ yJx4a65c_size_8abf5 wsJx4a65c_size_8abf5) := goodIn_app (goodIn_of _ (by decide +kernel)) ggX15_board_Jx4a65c_size_8abf5
set_option maxRecDepth 20000 in
theorem ggX15_board_X12_init : GoodIn wsX15_board wsX12_init := goodIn_r _ [28, 29, 30, 31, 32, 33, 34, 105, 106, 107] (by decide +kernel) (by decide +kernel)
set_option maxRecDepth 20000 in
theorem gX15_board_X12_init : GoodIn wsX15_board (wsX12_init) := ggX15_board_X12_init
set_option maxRecDepth 20000 in
theorem ggX15_board_Jx4a65c_add_9ea2d : GoodIn wsX15_board wsJx4a65c_add_9ea2d := goodIn_r _ [38, 39, 40, 41, 17, 42, 43, 44, 15, 45, 46, 47, 48, 49, 50, 51, 52, 53, 54, 55, 56, 57, 58, 59, 60, 61, 62, 63, 64, 65, 66, 67, 68, 69, 70, 71, 72, 73, 74, 75, 76, 77, 78, 79, 80, 81, 82, 83, 84, 85, 86, 87, 88, 108, 109, 110] (by decide +kernel) (by decide +kernel)
set_option maxRecDepth 20000 in
theorem gX15_board_Jx4a65c_add_9ea2d_f53Jx4a65c : GoodIn wsX15_board (va_wsF RX15 53 RJx4a65c ⟨"java/util/List", "add", "(Ljava/lang/Object;)Z"⟩ yJx4a65c_add_9ea2d wsJx4a65c_add_9ea2d) := goodIn_app (goodIn_of _ (by decide +kernel)) ggX15_board_Jx4a65c_add_9ea2d
theorem dX15_board_0 : decode cX15_board 0 = .ok (.aload_n 0, 1) := by decide +kernel
theorem dX15_board_1 : decode cX15_board 1 = .ok (.aload_n 0, 1) := by decide +kernel
theorem dX15_board_2 : decode cX15_board 2 = .ok (.iload_n 1, 1) := by decide +kernel
theorem dX15_board_3 : decode cX15_board 3 = .ok (.invokevirtual 63, 3) := by decide +kernel
theorem dX15_board_6 : decode cX15_board 6 = .ok (.iconst 1, 1) := by decide +kernel
theorem dX15_board_7 : decode cX15_board 7 = .ok (.invokevirtual 43, 3) := by decide +kernel
theorem dX15_board_10 : decode cX15_board 10 = .ok (.ifCond .ne 33, 3) := by decide +kernel
theorem dX15_board_13 : decode cX15_board 13 = .ok (.aload_n 0, 1) := by decide +kernel
theorem dX15_board_14 : decode cX15_board 14 = .ok (.aload_n 0, 1) := by decide +kernel
theorem dX15_board_15 : decode cX15_board 15 = .ok (.getfield 10, 3) := by decide +kernel
theorem dX15_board_18 : decode cX15_board 18 = .ok (.getfield 40, 3) := by decide +kernel
theorem dX15_board_21 : decode cX15_board 21 = .ok (.invokeinterface 24 1, 5) := by decide +kernel
theorem dX15_board_26 : decode cX15_board 26 = .ok (.bipush 6, 2) := by decide +kernel
theorem dX15_board_28 : decode cX15_board 28 = .ok (.if_icmp .ge 7, 3) := by decide +kernel
theorem dX15_board_31 : decode cX15_board 31 = .ok (.iconst 1, 1) := by decide +kernel
theorem dX15_board_32 : decode cX15_board 32 = .ok (.goto 4, 3) := by decide +kernel
theorem dX15_board_35 : decode cX15_board 35 = .ok (.iconst 0, 1) := by decide +kernel
theorem dX15_board_36 : decode cX15_board 36 = .ok (.iconst 2, 1) := by decide +kernel
theorem dX15_board_37 : decode cX15_board 37 = .ok (.invokevirtual 43, 3) := by decide +kernel
theorem dX15_board_40 : decode cX15_board 40 = .ok (.ifCond .eq 5, 3) := by decide +kernel
theorem dX15_board_43 : decode cX15_board 43 = .ok (.iconst 0, 1) := by decide +kernel
theorem dX15_board_44 : decode cX15_board 44 = .ok (.ireturn, 1) := by decide +kernel
theorem dX15_board_45 : decode cX15_board 45 = .ok (.aload_n 0, 1) := by decide +kernel
theorem dX15_board_46 : decode cX15_board 46 = .ok (.getfield 10, 3) := by decide +kernel
theorem dX15_board_49 : decode cX15_board 49 = .ok (.getfield 40, 3) := by decide +kernel
theorem dX15_board_52 : decode cX15_board 52 = .ok (.new 111, 3) := by decide +kernel
theorem dX15_board_55 : decode cX15_board 55 = .ok (.dup, 1) := by decide +kernel
theorem dX15_board_56 : decode cX15_board 56 = .ok (.iload_n 1, 1) := by decide +kernel
theorem dX15_board_57 : decode cX15_board 57 = .ok (.invokespecial 113, 3) := by decide +kernel
theorem dX15_board_60 : decode cX15_board 60 = .ok (.invokeinterface 53 2, 5) := by decide +kernel
theorem dX15_board_65 : decode cX15_board 65 = .ok (.pop, 1) := by decide +kernel
theorem dX15_board_66 : decode cX15_board 66 = .ok (.aload_n 0, 1) := by decide +kernel
theorem dX15_board_67 : decode cX15_board 67 = .ok (.getfield 10, 3) := by decide +kernel
theorem dX15_board_70 : decode cX15_board 70 = .ok (.getfield 40, 3) := by decide +kernel
theorem dX15_board_73 : decode cX15_board 73 = .ok (.invokeinterface 24 1, 5) := by decide +kernel
theorem dX15_board_78 : decode cX15_board 78 = .ok (.iconst 1, 1) := by decide +kernel
theorem dX15_board_79 : decode cX15_board 79 = .ok (.isub, 1) := by decide +kernel
theorem dX15_board_80 : decode cX15_board 80 = .ok (.ireturn, 1) := by decide +kernel
set_option maxRecDepth 20000 in
theorem ggX15_move_Jx4a65c_size_8abf5 : GoodIn wsX15_move wsJx4a65c_size_8abf5 := goodIn_r _ [14, 15, 101, 102, 103] (by decide +kernel) (by decide +kernel)
set_option maxRecDepth 20000 in
theorem gX15_move_Jx4a65c_size_8abf5_f24Jx4a65c : GoodIn wsX15_move (va_wsF RX15 24 RJx4a65c ⟨"java/util/List", "size", "()I"⟩ yJx4a65c_size_8abf5 wsJx4a65c_size_8abf5) := goodIn_app (goodIn_of _ (by decide +kernel)) ggX15_move_Jx4a65c_size_8abf5
set_option maxRecDepth 20000 in
theorem ggX15_move_X15_isIn : GoodIn wsX15_move wsX15_isIn := goodIn_r _ [19] (by decide +kernel) (by decide +kernel)
set_option maxRecDepth 20000 in
theorem gX15_move_X15_isIn : GoodIn wsX15_move (va_wsS RX15 30 yX15_isIn wsX15_isIn) := goodIn_app (goodIn_of _ (by decide +kernel)) ggX15_move_X15_isIn
set_option maxRecDepth 20000 in
theorem ggX15_move_X15_isRoom : GoodIn wsX15_move wsX15_isRoom := goodIn_r _ [23, 1, 24, 10, 11, 12, 13, 14, 15, 16, 17, 18, 19, 79, 80, 81, 82, 83, 84, 85, 86, 87, 88, 89, 90, 91, 92, 93, 94, 101, 102, 103] (by decide +kernel) (by decide +kernel)
set_option maxRecDepth 20000 in
theorem gX15_move_X15_isRoom : GoodIn wsX15_move (wsV RX15 63 RX15 yX15_isRoom wsX15_isRoom) := goodIn_app (goodIn_of _ (by decide +kernel)) ggX15_move_X15_isRoom
set_option maxRecDepth 20000 in
theorem ggX15_move_X15_no : GoodIn wsX15_move wsX15_no := goodIn_r _ [28, 29, 79, 80] (by decide +kernel) (by decide +kernel)
set_option maxRecDepth 20000 in
theorem gX15_move_X15_no : GoodIn wsX15_move (wsV RX15 43 RX15 yX15_no wsX15_no) := goodIn_app (goodIn_of _ (by decide +kernel)) ggX15_move_X15_no
set_option maxRecDepth 20000 in
theorem ggX15_move_Jx4a65c_get_915e3 : GoodIn wsX15_move wsJx4a65c_get_915e3 := goodIn_r _ [33, 15, 34, 35, 36, 37, 38, 39, 40, 41, 42, 43, 44, 13, 45, 46, 101, 102, 103] (by decide +kernel) (by decide +kernel)
set_option maxRecDepth 20000 in
theorem gX15_move_Jx4a65c_get_915e3_f75Jx4a65c : GoodIn wsX15_move (va_wsF RX15 75 RJx4a65c ⟨"java/util/List", "get", "(I)Ljava/lang/Object;"⟩ yJx4a65c_get_915e3 wsJx4a65c_get_915e3) := goodIn_app (goodIn_of _ (by decide +kernel)) ggX15_move_Jx4a65c_get_915e3
set_option maxRecDepth 20000 in
theorem ggX15_move_Jx4a65c_iterator_32c93 : GoodIn wsX15_move wsJx4a65c_iterator_32c93 := goodIn_r _ [50, 51, 52, 53, 54, 55, 56, 57, 58, 59, 60, 61, 62, 63, 64, 104, 105, 106, 107, 101, 102, 103] (by decide +kernel) (by decide +kernel)
set_option maxRecDepth 20000 in
theorem gX15_move_Jx4a65c_iterator_32c93_f119Jx4a65c : GoodIn wsX15_move (va_wsF RX15 119 RJx4a65c ⟨"java/util/List", "iterator", "()Ljava/util/Iterator;"⟩ yJx4a65c_iterator_32c93 wsJx4a65c_iterator_32c93) := goodIn_app (goodIn_of _ (by decide +kernel)) ggX15_move_Jx4a65c_iterator_32c93
set_option maxRecDepth 20000 in
theorem ggX15_move_Jx35411_hasNext_aae02 : GoodIn wsX15_move wsJx35411_hasNext_aae02 := goodIn_r _ [68, 69, 57, 104, 105, 106, 107, 101, 102, 103] (by decide +kernel) (by decide +kernel)
set_option maxRecDepth 20000 in
theorem gX15_move_Jx35411_hasNext_aae02_f123Jx35411 : GoodIn wsX15_move (va_wsF RX15 123 RJx35411 ⟨"java/util/Iterator", "hasNext", "()Z"⟩ yJx35411_hasNext_aae02 wsJx35411_hasNext_aae02) := goodIn_app (goodIn_of _ (by decide +kernel)) ggX15_move_Jx35411_hasNext_aae02
set_option maxRecDepth 20000 in
theorem ggX15_move_Jx35411_next_0502b : GoodIn wsX15_move wsJx35411_next_0502b := goodIn_r _ [73, 69, 57, 74, 61, 75, 76, 77, 53, 78, 62, 63, 64, 104, 105, 106, 107, 101, 102, 103] (by decide +kernel) (by decide +kernel)
set_option maxRecDepth 20000 in
theorem gX15_move_Jx35411_next_0502b_f129Jx35411 : GoodIn wsX15_move (va_wsF RX15 129 RJx35411 ⟨"java/util/Iterator", "next", "()Ljava/lang/Object;"⟩ yJx35411_next_0502b wsJx35411_next_0502b) := goodIn_app (goodIn_of _ (by decide +kernel)) ggX15_move_Jx35411_next_0502b
theorem dX15_move_0 : decode cX15_move 0 = .ok (.aload_n 0, 1) := by decide +kernel
theorem dX15_move_1 : decode cX15_move 1 = .ok (.iload_n 1, 1) := by decide +kernel
theorem dX15_move_2 : decode cX15_move 2 = .ok (.iconst 0, 1) := by decide +kernel
theorem dX15_move_3 : decode cX15_move 3 = .ok (.aload_n 0, 1) := by decide +kernel
theorem dX15_move_4 : decode cX15_move 4 = .ok (.getfield 10, 3) := by decide +kernel
theorem dX15_move_7 : decode cX15_move 7 = .ok (.getfield 40, 3) := by decide +kernel
theorem dX15_move_10 : decode cX15_move 10 = .ok (.invokeinterface 24 1, 5) := by decide +kernel
theorem dX15_move_15 : decode cX15_move 15 = .ok (.iconst 1, 1) := by decide +kernel
theorem dX15_move_16 : decode cX15_move 16 = .ok (.isub, 1) := by decide +kernel
theorem dX15_move_17 : decode cX15_move 17 = .ok (.invokestatic 30, 3) := by decide +kernel
theorem dX15_move_20 : decode cX15_move 20 = .ok (.ifCond .eq 15, 3) := by decide +kernel
theorem dX15_move_23 : decode cX15_move 23 = .ok (.aload_n 0, 1) := by decide +kernel
theorem dX15_move_24 : decode cX15_move 24 = .ok (.iload_n 2, 1) := by decide +kernel
theorem dX15_move_25 : decode cX15_move 25 = .ok (.invokevirtual 63, 3) := by decide +kernel
theorem dX15_move_28 : decode cX15_move 28 = .ok (.ifCond .eq 7, 3) := by decide +kernel
theorem dX15_move_31 : decode cX15_move 31 = .ok (.iconst 1, 1) := by decide +kernel
theorem dX15_move_32 : decode cX15_move 32 = .ok (.goto 4, 3) := by decide +kernel
theorem dX15_move_35 : decode cX15_move 35 = .ok (.iconst 0, 1) := by decide +kernel
theorem dX15_move_36 : decode cX15_move 36 = .ok (.iconst 1, 1) := by decide +kernel
theorem dX15_move_37 : decode cX15_move 37 = .ok (.invokevirtual 43, 3) := by decide +kernel
theorem dX15_move_40 : decode cX15_move 40 = .ok (.ifCond .eq 5, 3) := by decide +kernel
theorem dX15_move_43 : decode cX15_move 43 = .ok (.iconst 0, 1) := by decide +kernel
theorem dX15_move_44 : decode cX15_move 44 = .ok (.ireturn, 1) := by decide +kernel
theorem dX15_move_45 : decode cX15_move 45 = .ok (.aload_n 0, 1) := by decide +kernel
theorem dX15_move_46 : decode cX15_move 46 = .ok (.getfield 10, 3) := by decide +kernel
theorem dX15_move_49 : decode cX15_move 49 = .ok (.getfield 40, 3) := by decide +kernel
theorem dX15_move_52 : decode cX15_move 52 = .ok (.iload_n 1, 1) := by decide +kernel
theorem dX15_move_53 : decode cX15_move 53 = .ok (.invokeinterface 75 2, 5) := by decide +kernel
theorem dX15_move_58 : decode cX15_move 58 = .ok (.checkcast 111, 3) := by decide +kernel
theorem dX15_move_61 : decode cX15_move 61 = .ok (.astore_n 3, 1) := by decide +kernel
theorem dX15_move_62 : decode cX15_move 62 = .ok (.aload_n 0, 1) := by decide +kernel
theorem dX15_move_63 : decode cX15_move 63 = .ok (.aload_n 3, 1) := by decide +kernel
theorem dX15_move_64 : decode cX15_move 64 = .ok (.getfield 116, 3) := by decide +kernel
theorem dX15_move_67 : decode cX15_move 67 = .ok (.iconst (-1), 1) := by decide +kernel
theorem dX15_move_68 : decode cX15_move 68 = .ok (.if_icmp .eq 7, 3) := by decide +kernel
theorem dX15_move_71 : decode cX15_move 71 = .ok (.iconst 1, 1) := by decide +kernel
theorem dX15_move_72 : decode cX15_move 72 = .ok (.goto 4, 3) := by decide +kernel
theorem dX15_move_75 : decode cX15_move 75 = .ok (.iconst 0, 1) := by decide +kernel
theorem dX15_move_76 : decode cX15_move 76 = .ok (.iconst 2, 1) := by decide +kernel
theorem dX15_move_77 : decode cX15_move 77 = .ok (.invokevirtual 43, 3) := by decide +kernel
theorem dX15_move_80 : decode cX15_move 80 = .ok (.ifCond .eq 5, 3) := by decide +kernel
theorem dX15_move_83 : decode cX15_move 83 = .ok (.iconst 0, 1) := by decide +kernel
theorem dX15_move_84 : decode cX15_move 84 = .ok (.ireturn, 1) := by decide +kernel
theorem dX15_move_85 : decode cX15_move 85 = .ok (.iconst 0, 1) := by decide +kernel
theorem dX15_move_86 : decode cX15_move 86 = .ok (.istore 4, 2) := by decide +kernel
theorem dX15_move_88 : decode cX15_move 88 = .ok (.aload_n 0, 1) := by decide +kernel
theorem dX15_move_89 : decode cX15_move 89 = .ok (.getfield 10, 3) := by decide +kernel
theorem dX15_move_92 : decode cX15_move 92 = .ok (.getfield 34, 3) := by decide +kernel
theorem dX15_move_95 : decode cX15_move 95 = .ok (.invokeinterface 119 1, 5) := by decide +kernel
theorem dX15_move_100 : decode cX15_move 100 = .ok (.astore 5, 2) := by decide +kernel
theorem dX15_move_102 : decode cX15_move 102 = .ok (.aload 5, 2) := by decide +kernel
theorem dX15_move_104 : decode cX15_move 104 = .ok (.invokeinterface 123 1, 5) := by decide +kernel
theorem dX15_move_109 : decode cX15_move 109 = .ok (.ifCond .eq 78, 3) := by decide +kernel
theorem dX15_move_112 : decode cX15_move 112 = .ok (.aload 5, 2) := by decide +kernel
theorem dX15_move_114 : decode cX15_move 114 = .ok (.invokeinterface 129 1, 5) := by decide +kernel
theorem dX15_move_119 : decode cX15_move 119 = .ok (.checkcast 67, 3) := by decide +kernel
theorem dX15_move_122 : decode cX15_move 122 = .ok (.astore 6, 2) := by decide +kernel
theorem dX15_move_124 : decode cX15_move 124 = .ok (.iload 4, 2) := by decide +kernel
theorem dX15_move_126 : decode cX15_move 126 = .ok (.aload 6, 2) := by decide +kernel
theorem dX15_move_128 : decode cX15_move 128 = .ok (.getfield 79, 3) := by decide +kernel
theorem dX15_move_131 : decode cX15_move 131 = .ok (.ifCond .eq 49, 3) := by decide +kernel
theorem dX15_move_134 : decode cX15_move 134 = .ok (.aload 6, 2) := by decide +kernel
theorem dX15_move_136 : decode cX15_move 136 = .ok (.getfield 133, 3) := by decide +kernel
theorem dX15_move_139 : decode cX15_move 139 = .ok (.iload_n 2, 1) := by decide +kernel
theorem dX15_move_140 : decode cX15_move 140 = .ok (.if_icmp .ne 15, 3) := by decide +kernel
theorem dX15_move_143 : decode cX15_move 143 = .ok (.aload 6, 2) := by decide +kernel
theorem dX15_move_145 : decode cX15_move 145 = .ok (.getfield 136, 3) := by decide +kernel
theorem dX15_move_148 : decode cX15_move 148 = .ok (.aload_n 3, 1) := by decide +kernel
theorem dX15_move_149 : decode cX15_move 149 = .ok (.getfield 116, 3) := by decide +kernel
theorem dX15_move_152 : decode cX15_move 152 = .ok (.if_icmp .eq 24, 3) := by decide +kernel
theorem dX15_move_155 : decode cX15_move 155 = .ok (.aload 6, 2) := by decide +kernel
theorem dX15_move_157 : decode cX15_move 157 = .ok (.getfield 136, 3) := by decide +kernel
theorem dX15_move_160 : decode cX15_move 160 = .ok (.iload_n 2, 1) := by decide +kernel
theorem dX15_move_161 : decode cX15_move 161 = .ok (.if_icmp .ne 19, 3) := by decide +kernel
theorem dX15_move_164 : decode cX15_move 164 = .ok (.aload 6, 2) := by decide +kernel
theorem dX15_move_166 : decode cX15_move 166 = .ok (.getfield 133, 3) := by decide +kernel
theorem dX15_move_169 : decode cX15_move 169 = .ok (.aload_n 3, 1) := by decide +kernel
theorem dX15_move_170 : decode cX15_move 170 = .ok (.getfield 116, 3) := by decide +kernel
theorem dX15_move_173 : decode cX15_move 173 = .ok (.if_icmp .ne 7, 3) := by decide +kernel
theorem dX15_move_176 : decode cX15_move 176 = .ok (.iconst 1, 1) := by decide +kernel
theorem dX15_move_177 : decode cX15_move 177 = .ok (.goto 4, 3) := by decide +kernel
theorem dX15_move_180 : decode cX15_move 180 = .ok (.iconst 0, 1) := by decide +kernel
theorem dX15_move_181 : decode cX15_move 181 = .ok (.ior, 1) := by decide +kernel
theorem dX15_move_182 : decode cX15_move 182 = .ok (.istore 4, 2) := by decide +kernel
theorem dX15_move_184 : decode cX15_move 184 = .ok (.goto (-82), 3) := by decide +kernel
theorem dX15_move_187 : decode cX15_move 187 = .ok (.aload_n 0, 1) := by decide +kernel
theorem dX15_move_188 : decode cX15_move 188 = .ok (.iload 4, 2) := by decide +kernel
theorem dX15_move_190 : decode cX15_move 190 = .ok (.iconst 3, 1) := by decide +kernel
theorem dX15_move_191 : decode cX15_move 191 = .ok (.invokevirtual 43, 3) := by decide +kernel
theorem dX15_move_194 : decode cX15_move 194 = .ok (.ifCond .eq 5, 3) := by decide +kernel
theorem dX15_move_197 : decode cX15_move 197 = .ok (.iconst 0, 1) := by decide +kernel
theorem dX15_move_198 : decode cX15_move 198 = .ok (.ireturn, 1) := by decide +kernel
theorem dX15_move_199 : decode cX15_move 199 = .ok (.aload_n 3, 1) := by decide +kernel
theorem dX15_move_200 : decode cX15_move 200 = .ok (.getfield 116, 3) := by decide +kernel
theorem dX15_move_203 : decode cX15_move 203 = .ok (.istore 5, 2) := by decide +kernel
theorem dX15_move_205 : decode cX15_move 205 = .ok (.aload_n 3, 1) := by decide +kernel
theorem dX15_move_206 : decode cX15_move 206 = .ok (.iload_n 2, 1) := by decide +kernel
theorem dX15_move_207 : decode cX15_move 207 = .ok (.putfield 116, 3) := by decide +kernel
theorem dX15_move_210 : decode cX15_move 210 = .ok (.iload 5, 2) := by decide +kernel
theorem dX15_move_212 : decode cX15_move 212 = .ok (.ireturn, 1) := by decide +kernel
set_option maxRecDepth 20000 in
theorem ggX15_setTask_X15_noPerson : GoodIn wsX15_setTask wsX15_noPerson := goodIn_r _ [11, 1, 2, 12, 13, 14, 15, 16, 17, 18, 19, 10, 20, 21, 22, 23, 24, 25, 43, 44, 45, 46, 47, 48, 49, 50, 51, 52, 53, 54, 55, 56, 57, 58, 62, 63, 64] (by decide +kernel) (by decide +kernel)
set_option maxRecDepth 20000 in
theorem gX15_setTask_X15_noPerson : GoodIn wsX15_setTask (wsV RX15 139 RX15 yX15_noPerson wsX15_noPerson) := goodIn_app (goodIn_of _ (by decide +kernel)) ggX15_setTask_X15_noPerson
set_option maxRecDepth 20000 in
theorem ggX15_setTask_X15_no : GoodIn wsX15_setTask wsX15_no := goodIn_r _ [24, 25, 43, 44] (by decide +kernel) (by decide +kernel)
set_option maxRecDepth 20000 in
theorem gX15_setTask_X15_no : GoodIn wsX15_setTask (wsV RX15 43 RX15 yX15_no wsX15_no) := goodIn_app (goodIn_of _ (by decide +kernel)) ggX15_setTask_X15_no
set_option maxRecDepth 20000 in
theorem ggX15_setTask_Jx4a65c_get_915e3 : GoodIn wsX15_setTask wsJx4a65c_get_915e3 := goodIn_r _ [29, 17, 30, 31, 32, 33, 34, 35, 36, 37, 38, 39, 40, 15, 41, 42, 62, 63, 64] (by decide +kernel) (by decide +kernel)
set_option maxRecDepth 20000 in
theorem gX15_setTask_Jx4a65c_get_915e3_f75Jx4a65c : GoodIn wsX15_setTask (va_wsF RX15 75 RJx4a65c ⟨"java/util/List", "get", "(I)Ljava/lang/Object;"⟩ yJx4a65c_get_915e3 wsJx4a65c_get_915e3) := goodIn_app (goodIn_of _ (by decide +kernel)) ggX15_setTask_Jx4a65c_get_915e3
theorem dX15_setTask_0 : decode cX15_setTask 0 = .ok (.aload_n 0, 1) := by decide +kernel
theorem dX15_setTask_1 : decode cX15_setTask 1 = .ok (.iload_n 1, 1) := by decide +kernel
theorem dX15_setTask_2 : decode cX15_setTask 2 = .ok (.invokevirtual 139, 3) := by decide +kernel
theorem dX15_setTask_5 : decode cX15_setTask 5 = .ok (.ifCond .ne 34, 3) := by decide +kernel
theorem dX15_setTask_8 : decode cX15_setTask 8 = .ok (.aload_n 0, 1) := by decide +kernel
theorem dX15_setTask_9 : decode cX15_setTask 9 = .ok (.iload_n 2, 1) := by decide +kernel
theorem dX15_setTask_10 : decode cX15_setTask 10 = .ok (.bipush 114, 2) := by decide +kernel
theorem dX15_setTask_12 : decode cX15_setTask 12 = .ok (.if_icmp .eq 15, 3) := by decide +kernel
theorem dX15_setTask_15 : decode cX15_setTask 15 = .ok (.iload_n 2, 1) := by decide +kernel
theorem dX15_setTask_16 : decode cX15_setTask 16 = .ok (.bipush 119, 2) := by decide +kernel
theorem dX15_setTask_18 : decode cX15_setTask 18 = .ok (.if_icmp .eq 9, 3) := by decide +kernel
theorem dX15_setTask_21 : decode cX15_setTask 21 = .ok (.iload_n 2, 1) := by decide +kernel
theorem dX15_setTask_22 : decode cX15_setTask 22 = .ok (.bipush 115, 2) := by decide +kernel
theorem dX15_setTask_24 : decode cX15_setTask 24 = .ok (.if_icmp .ne 7, 3) := by decide +kernel
theorem dX15_setTask_27 : decode cX15_setTask 27 = .ok (.iconst 1, 1) := by decide +kernel
theorem dX15_setTask_28 : decode cX15_setTask 28 = .ok (.goto 4, 3) := by decide +kernel
theorem dX15_setTask_31 : decode cX15_setTask 31 = .ok (.iconst 0, 1) := by decide +kernel
theorem dX15_setTask_32 : decode cX15_setTask 32 = .ok (.iconst 2, 1) := by decide +kernel
theorem dX15_setTask_33 : decode cX15_setTask 33 = .ok (.invokevirtual 43, 3) := by decide +kernel
theorem dX15_setTask_36 : decode cX15_setTask 36 = .ok (.ifCond .eq 6, 3) := by decide +kernel
theorem dX15_setTask_39 : decode cX15_setTask 39 = .ok (.bipush 114, 2) := by decide +kernel
theorem dX15_setTask_41 : decode cX15_setTask 41 = .ok (.ireturn, 1) := by decide +kernel
theorem dX15_setTask_42 : decode cX15_setTask 42 = .ok (.aload_n 0, 1) := by decide +kernel
theorem dX15_setTask_43 : decode cX15_setTask 43 = .ok (.getfield 10, 3) := by decide +kernel
theorem dX15_setTask_46 : decode cX15_setTask 46 = .ok (.getfield 40, 3) := by decide +kernel
theorem dX15_setTask_49 : decode cX15_setTask 49 = .ok (.iload_n 1, 1) := by decide +kernel
theorem dX15_setTask_50 : decode cX15_setTask 50 = .ok (.invokeinterface 75 2, 5) := by decide +kernel
theorem dX15_setTask_55 : decode cX15_setTask 55 = .ok (.checkcast 111, 3) := by decide +kernel
theorem dX15_setTask_58 : decode cX15_setTask 58 = .ok (.astore_n 3, 1) := by decide +kernel
theorem dX15_setTask_59 : decode cX15_setTask 59 = .ok (.aload_n 0, 1) := by decide +kernel
theorem dX15_setTask_60 : decode cX15_setTask 60 = .ok (.aload_n 3, 1) := by decide +kernel
theorem dX15_setTask_61 : decode cX15_setTask 61 = .ok (.getfield 116, 3) := by decide +kernel
theorem dX15_setTask_64 : decode cX15_setTask 64 = .ok (.iconst (-1), 1) := by decide +kernel
theorem dX15_setTask_65 : decode cX15_setTask 65 = .ok (.if_icmp .eq 7, 3) := by decide +kernel
theorem dX15_setTask_68 : decode cX15_setTask 68 = .ok (.iconst 1, 1) := by decide +kernel
theorem dX15_setTask_69 : decode cX15_setTask 69 = .ok (.goto 4, 3) := by decide +kernel
theorem dX15_setTask_72 : decode cX15_setTask 72 = .ok (.iconst 0, 1) := by decide +kernel
theorem dX15_setTask_73 : decode cX15_setTask 73 = .ok (.iconst 3, 1) := by decide +kernel
theorem dX15_setTask_74 : decode cX15_setTask 74 = .ok (.invokevirtual 43, 3) := by decide +kernel
theorem dX15_setTask_77 : decode cX15_setTask 77 = .ok (.ifCond .ne 32, 3) := by decide +kernel
theorem dX15_setTask_80 : decode cX15_setTask 80 = .ok (.aload_n 0, 1) := by decide +kernel
theorem dX15_setTask_81 : decode cX15_setTask 81 = .ok (.iload_n 2, 1) := by decide +kernel
theorem dX15_setTask_82 : decode cX15_setTask 82 = .ok (.bipush 119, 2) := by decide +kernel
theorem dX15_setTask_84 : decode cX15_setTask 84 = .ok (.if_icmp .ne 13, 3) := by decide +kernel
theorem dX15_setTask_87 : decode cX15_setTask 87 = .ok (.aload_n 0, 1) := by decide +kernel
theorem dX15_setTask_88 : decode cX15_setTask 88 = .ok (.getfield 10, 3) := by decide +kernel
theorem dX15_setTask_91 : decode cX15_setTask 91 = .ok (.getfield 98, 3) := by decide +kernel
theorem dX15_setTask_94 : decode cX15_setTask 94 = .ok (.ifCond .ne 7, 3) := by decide +kernel
theorem dX15_setTask_97 : decode cX15_setTask 97 = .ok (.iconst 1, 1) := by decide +kernel
theorem dX15_setTask_98 : decode cX15_setTask 98 = .ok (.goto 4, 3) := by decide +kernel
theorem dX15_setTask_101 : decode cX15_setTask 101 = .ok (.iconst 0, 1) := by decide +kernel
theorem dX15_setTask_102 : decode cX15_setTask 102 = .ok (.iconst 4, 1) := by decide +kernel
theorem dX15_setTask_103 : decode cX15_setTask 103 = .ok (.invokevirtual 43, 3) := by decide +kernel
theorem dX15_setTask_106 : decode cX15_setTask 106 = .ok (.ifCond .eq 6, 3) := by decide +kernel
theorem dX15_setTask_109 : decode cX15_setTask 109 = .ok (.bipush 114, 2) := by decide +kernel
theorem dX15_setTask_111 : decode cX15_setTask 111 = .ok (.ireturn, 1) := by decide +kernel
theorem dX15_setTask_112 : decode cX15_setTask 112 = .ok (.aload_n 3, 1) := by decide +kernel
theorem dX15_setTask_113 : decode cX15_setTask 113 = .ok (.getfield 142, 3) := by decide +kernel
theorem dX15_setTask_116 : decode cX15_setTask 116 = .ok (.istore 4, 2) := by decide +kernel
theorem dX15_setTask_118 : decode cX15_setTask 118 = .ok (.aload_n 3, 1) := by decide +kernel
theorem dX15_setTask_119 : decode cX15_setTask 119 = .ok (.iload_n 2, 1) := by decide +kernel
theorem dX15_setTask_120 : decode cX15_setTask 120 = .ok (.putfield 142, 3) := by decide +kernel
theorem dX15_setTask_123 : decode cX15_setTask 123 = .ok (.iload 4, 2) := by decide +kernel
theorem dX15_setTask_125 : decode cX15_setTask 125 = .ok (.ireturn, 1) := by decide +kernel
set_option maxRecDepth 20000 in
theorem ggX15_send_X15_isIn : GoodIn wsX15_send wsX15_isIn := goodIn_r _ [11] (by decide +kernel) (by decide +kernel)
set_option maxRecDepth 20000 in
theorem gX15_send_X15_isIn : GoodIn wsX15_send (va_wsS RX15 30 yX15_isIn wsX15_isIn) := goodIn_app (goodIn_of _ (by decide +kernel)) ggX15_send_X15_isIn
set_option maxRecDepth 20000 in
theorem ggX15_send_X15_no : GoodIn wsX15_send wsX15_no := goodIn_r _ [15, 16, 97, 98] (by decide +kernel) (by decide +kernel)
set_option maxRecDepth 20000 in
theorem gX15_send_X15_no : GoodIn wsX15_send (wsV RX15 43 RX15 yX15_no wsX15_no) := goodIn_app (goodIn_of _ (by decide +kernel)) ggX15_send_X15_no
set_option maxRecDepth 20000 in
theorem ggX15_send_X15_isDevice : GoodIn wsX15_send wsX15_isDevice := goodIn_r _ [20, 1, 21, 22, 23, 24, 25, 26, 27, 8, 9, 10, 11, 97, 98, 99, 100, 101, 102, 103, 104, 105, 106, 107, 108, 109, 110, 111, 112, 117, 118, 119] (by decide +kernel) (by decide +kernel)
set_option maxRecDepth 20000 in
theorem gX15_send_X15_isDevice : GoodIn wsX15_send (wsV RX15 95 RX15 yX15_isDevice wsX15_isDevice) := goodIn_app (goodIn_of _ (by decide +kernel)) ggX15_send_X15_isDevice
set_option maxRecDepth 20000 in
theorem ggX15_send_X15_isHatch : GoodIn wsX15_send wsX15_isHatch := goodIn_r _ [31, 1, 32, 22, 23, 24, 25, 26, 27, 8, 9, 10, 11, 97, 98, 99, 100, 101, 102, 103, 104, 105, 106, 107, 108, 109, 110, 111, 112, 117, 118, 119] (by decide +kernel) (by decide +kernel)
set_option maxRecDepth 20000 in
theorem gX15_send_X15_isHatch : GoodIn wsX15_send (wsV RX15 72 RX15 yX15_isHatch wsX15_isHatch) := goodIn_app (goodIn_of _ (by decide +kernel)) ggX15_send_X15_isHatch
set_option maxRecDepth 20000 in
theorem ggX15_send_Jx4a65c_size_8abf5 : GoodIn wsX15_send wsJx4a65c_size_8abf5 := goodIn_r _ [26, 27, 117, 118, 119] (by decide +kernel) (by decide +kernel)
set_option maxRecDepth 20000 in
theorem gX15_send_Jx4a65c_size_8abf5_f24Jx4a65c : GoodIn wsX15_send (va_wsF RX15 24 RJx4a65c ⟨"java/util/List", "size", "()I"⟩ yJx4a65c_size_8abf5 wsJx4a65c_size_8abf5) := goodIn_app (goodIn_of _ (by decide +kernel)) ggX15_send_Jx4a65c_size_8abf5
set_option maxRecDepth 20000 in
theorem ggX15_send_X9_init : GoodIn wsX15_send wsX9_init := goodIn_r _ [35, 36, 37, 38, 39, 40, 41, 42, 113, 114, 115, 116] (by decide +kernel) (by decide +kernel)
set_option maxRecDepth 20000 in
theorem gX15_send_X9_init : GoodIn wsX15_send (wsX9_init) := ggX15_send_X9_init
set_option maxRecDepth 20000 in
theorem ggX15_send_Jx4a65c_add_9ea2d : GoodIn wsX15_send wsJx4a65c_add_9ea2d := goodIn_r _ [46, 47, 48, 49, 27, 50, 51, 52, 25, 53, 54, 55, 56, 57, 58, 59, 60, 61, 62, 63, 64, 65, 66, 67, 68, 69, 70, 71, 72, 73, 74, 75, 76, 77, 78, 79, 80, 81, 82, 83, 84, 85, 86, 87, 88, 89, 90, 91, 92, 93, 94, 95, 96, 117, 118, 119] (by decide +kernel) (by decide +kernel)
set_option maxRecDepth 20000 in
theorem gX15_send_Jx4a65c_add_9ea2d_f53Jx4a65c : GoodIn wsX15_send (va_wsF RX15 53 RJx4a65c ⟨"java/util/List", "add", "(Ljava/lang/Object;)Z"⟩ yJx4a65c_add_9ea2d wsJx4a65c_add_9ea2d) := goodIn_app (goodIn_of _ (by decide +kernel)) ggX15_send_Jx4a65c_add_9ea2d
theorem dX15_send_0 : decode cX15_send 0 = .ok (.iload_n 1, 1) := by decide +kernel
theorem dX15_send_1 : decode cX15_send 1 = .ok (.bipush 110, 2) := by decide +kernel
theorem dX15_send_3 : decode cX15_send 3 = .ok (.if_icmp .eq 21, 3) := by decide +kernel
theorem dX15_send_6 : decode cX15_send 6 = .ok (.iload_n 1, 1) := by decide +kernel
theorem dX15_send_7 : decode cX15_send 7 = .ok (.bipush 102, 2) := by decide +kernel
theorem dX15_send_9 : decode cX15_send 9 = .ok (.if_icmp .eq 15, 3) := by decide +kernel
theorem dX15_send_12 : decode cX15_send 12 = .ok (.iload_n 1, 1) := by decide +kernel
theorem dX15_send_13 : decode cX15_send 13 = .ok (.bipush 111, 2) := by decide +kernel
theorem dX15_send_15 : decode cX15_send 15 = .ok (.if_icmp .eq 9, 3) := by decide +kernel
theorem dX15_send_18 : decode cX15_send 18 = .ok (.iload_n 1, 1) := by decide +kernel
theorem dX15_send_19 : decode cX15_send 19 = .ok (.bipush 104, 2) := by decide +kernel
theorem dX15_send_21 : decode cX15_send 21 = .ok (.if_icmp .ne 28, 3) := by decide +kernel
theorem dX15_send_24 : decode cX15_send 24 = .ok (.iload_n 3, 1) := by decide +kernel
theorem dX15_send_25 : decode cX15_send 25 = .ok (.iconst 1, 1) := by decide +kernel
theorem dX15_send_26 : decode cX15_send 26 = .ok (.bipush 99, 2) := by decide +kernel
theorem dX15_send_28 : decode cX15_send 28 = .ok (.invokestatic 30, 3) := by decide +kernel
theorem dX15_send_31 : decode cX15_send 31 = .ok (.ifCond .eq 18, 3) := by decide +kernel
theorem dX15_send_34 : decode cX15_send 34 = .ok (.iload 4, 2) := by decide +kernel
theorem dX15_send_36 : decode cX15_send 36 = .ok (.iconst 0, 1) := by decide +kernel
theorem dX15_send_37 : decode cX15_send 37 = .ok (.bipush 99, 2) := by decide +kernel
theorem dX15_send_39 : decode cX15_send 39 = .ok (.invokestatic 30, 3) := by decide +kernel
theorem dX15_send_42 : decode cX15_send 42 = .ok (.ifCond .eq 7, 3) := by decide +kernel
theorem dX15_send_45 : decode cX15_send 45 = .ok (.iconst 1, 1) := by decide +kernel
theorem dX15_send_46 : decode cX15_send 46 = .ok (.goto 4, 3) := by decide +kernel
theorem dX15_send_49 : decode cX15_send 49 = .ok (.iconst 0, 1) := by decide +kernel
theorem dX15_send_50 : decode cX15_send 50 = .ok (.istore 5, 2) := by decide +kernel
theorem dX15_send_52 : decode cX15_send 52 = .ok (.aload_n 0, 1) := by decide +kernel
theorem dX15_send_53 : decode cX15_send 53 = .ok (.iload 5, 2) := by decide +kernel
theorem dX15_send_55 : decode cX15_send 55 = .ok (.iconst 1, 1) := by decide +kernel
theorem dX15_send_56 : decode cX15_send 56 = .ok (.invokevirtual 43, 3) := by decide +kernel
theorem dX15_send_59 : decode cX15_send 59 = .ok (.ifCond .ne 36, 3) := by decide +kernel
theorem dX15_send_62 : decode cX15_send 62 = .ok (.aload_n 0, 1) := by decide +kernel
theorem dX15_send_63 : decode cX15_send 63 = .ok (.iload_n 1, 1) := by decide +kernel
theorem dX15_send_64 : decode cX15_send 64 = .ok (.bipush 110, 2) := by decide +kernel
theorem dX15_send_66 : decode cX15_send 66 = .ok (.if_icmp .eq 9, 3) := by decide +kernel
theorem dX15_send_69 : decode cX15_send 69 = .ok (.iload_n 1, 1) := by decide +kernel
theorem dX15_send_70 : decode cX15_send 70 = .ok (.bipush 102, 2) := by decide +kernel
theorem dX15_send_72 : decode cX15_send 72 = .ok (.if_icmp .ne 11, 3) := by decide +kernel
theorem dX15_send_75 : decode cX15_send 75 = .ok (.aload_n 0, 1) := by decide +kernel
theorem dX15_send_76 : decode cX15_send 76 = .ok (.iload_n 2, 1) := by decide +kernel
theorem dX15_send_77 : decode cX15_send 77 = .ok (.invokevirtual 95, 3) := by decide +kernel
theorem dX15_send_80 : decode cX15_send 80 = .ok (.goto 8, 3) := by decide +kernel
theorem dX15_send_83 : decode cX15_send 83 = .ok (.aload_n 0, 1) := by decide +kernel
theorem dX15_send_84 : decode cX15_send 84 = .ok (.iload_n 2, 1) := by decide +kernel
theorem dX15_send_85 : decode cX15_send 85 = .ok (.invokevirtual 72, 3) := by decide +kernel
theorem dX15_send_88 : decode cX15_send 88 = .ok (.iconst 2, 1) := by decide +kernel
theorem dX15_send_89 : decode cX15_send 89 = .ok (.invokevirtual 43, 3) := by decide +kernel
theorem dX15_send_92 : decode cX15_send 92 = .ok (.ifCond .eq 5, 3) := by decide +kernel
theorem dX15_send_95 : decode cX15_send 95 = .ok (.iconst 0, 1) := by decide +kernel
theorem dX15_send_96 : decode cX15_send 96 = .ok (.ireturn, 1) := by decide +kernel
theorem dX15_send_97 : decode cX15_send 97 = .ok (.aload_n 0, 1) := by decide +kernel
theorem dX15_send_98 : decode cX15_send 98 = .ok (.aload_n 0, 1) := by decide +kernel
theorem dX15_send_99 : decode cX15_send 99 = .ok (.getfield 10, 3) := by decide +kernel
theorem dX15_send_102 : decode cX15_send 102 = .ok (.getfield 145, 3) := by decide +kernel
theorem dX15_send_105 : decode cX15_send 105 = .ok (.invokeinterface 24 1, 5) := by decide +kernel
theorem dX15_send_110 : decode cX15_send 110 = .ok (.bipush 12, 2) := by decide +kernel
theorem dX15_send_112 : decode cX15_send 112 = .ok (.if_icmp .ge 7, 3) := by decide +kernel
theorem dX15_send_115 : decode cX15_send 115 = .ok (.iconst 1, 1) := by decide +kernel
theorem dX15_send_116 : decode cX15_send 116 = .ok (.goto 4, 3) := by decide +kernel
theorem dX15_send_119 : decode cX15_send 119 = .ok (.iconst 0, 1) := by decide +kernel
theorem dX15_send_120 : decode cX15_send 120 = .ok (.iconst 3, 1) := by decide +kernel
theorem dX15_send_121 : decode cX15_send 121 = .ok (.invokevirtual 43, 3) := by decide +kernel
theorem dX15_send_124 : decode cX15_send 124 = .ok (.ifCond .ne 26, 3) := by decide +kernel
theorem dX15_send_127 : decode cX15_send 127 = .ok (.aload_n 0, 1) := by decide +kernel
theorem dX15_send_128 : decode cX15_send 128 = .ok (.aload_n 0, 1) := by decide +kernel
theorem dX15_send_129 : decode cX15_send 129 = .ok (.getfield 10, 3) := by decide +kernel
theorem dX15_send_132 : decode cX15_send 132 = .ok (.getfield 98, 3) := by decide +kernel
theorem dX15_send_135 : decode cX15_send 135 = .ok (.ifCond .ne 7, 3) := by decide +kernel
theorem dX15_send_138 : decode cX15_send 138 = .ok (.iconst 1, 1) := by decide +kernel
theorem dX15_send_139 : decode cX15_send 139 = .ok (.goto 4, 3) := by decide +kernel
theorem dX15_send_142 : decode cX15_send 142 = .ok (.iconst 0, 1) := by decide +kernel
theorem dX15_send_143 : decode cX15_send 143 = .ok (.iconst 4, 1) := by decide +kernel
theorem dX15_send_144 : decode cX15_send 144 = .ok (.invokevirtual 43, 3) := by decide +kernel
theorem dX15_send_147 : decode cX15_send 147 = .ok (.ifCond .eq 5, 3) := by decide +kernel
theorem dX15_send_150 : decode cX15_send 150 = .ok (.iconst 0, 1) := by decide +kernel
theorem dX15_send_151 : decode cX15_send 151 = .ok (.ireturn, 1) := by decide +kernel
theorem dX15_send_152 : decode cX15_send 152 = .ok (.aload_n 0, 1) := by decide +kernel
theorem dX15_send_153 : decode cX15_send 153 = .ok (.getfield 10, 3) := by decide +kernel
theorem dX15_send_156 : decode cX15_send 156 = .ok (.getfield 145, 3) := by decide +kernel
theorem dX15_send_159 : decode cX15_send 159 = .ok (.new 148, 3) := by decide +kernel
theorem dX15_send_162 : decode cX15_send 162 = .ok (.dup, 1) := by decide +kernel
theorem dX15_send_163 : decode cX15_send 163 = .ok (.iload_n 1, 1) := by decide +kernel
theorem dX15_send_164 : decode cX15_send 164 = .ok (.iload_n 2, 1) := by decide +kernel
theorem dX15_send_165 : decode cX15_send 165 = .ok (.aload_n 0, 1) := by decide +kernel
theorem dX15_send_166 : decode cX15_send 166 = .ok (.getfield 10, 3) := by decide +kernel
theorem dX15_send_169 : decode cX15_send 169 = .ok (.getfield 150, 3) := by decide +kernel
theorem dX15_send_172 : decode cX15_send 172 = .ok (.iload_n 3, 1) := by decide +kernel
theorem dX15_send_173 : decode cX15_send 173 = .ok (.iadd, 1) := by decide +kernel
theorem dX15_send_174 : decode cX15_send 174 = .ok (.iload 4, 2) := by decide +kernel
theorem dX15_send_176 : decode cX15_send 176 = .ok (.invokespecial 153, 3) := by decide +kernel
theorem dX15_send_179 : decode cX15_send 179 = .ok (.invokeinterface 53 2, 5) := by decide +kernel
theorem dX15_send_184 : decode cX15_send 184 = .ok (.pop, 1) := by decide +kernel
theorem dX15_send_185 : decode cX15_send 185 = .ok (.aload_n 0, 1) := by decide +kernel
theorem dX15_send_186 : decode cX15_send 186 = .ok (.getfield 10, 3) := by decide +kernel
theorem dX15_send_189 : decode cX15_send 189 = .ok (.getfield 145, 3) := by decide +kernel
theorem dX15_send_192 : decode cX15_send 192 = .ok (.invokeinterface 24 1, 5) := by decide +kernel
theorem dX15_send_197 : decode cX15_send 197 = .ok (.ireturn, 1) := by decide +kernel
set_option maxRecDepth 20000 in
theorem ggX15_approach_X15_isIn : GoodIn wsX15_approach wsX15_isIn := goodIn_r _ [9] (by decide +kernel) (by decide +kernel)
set_option maxRecDepth 20000 in
theorem gX15_approach_X15_isIn : GoodIn wsX15_approach (va_wsS RX15 30 yX15_isIn wsX15_isIn) := goodIn_app (goodIn_of _ (by decide +kernel)) ggX15_approach_X15_isIn
set_option maxRecDepth 20000 in
theorem ggX15_approach_X15_no : GoodIn wsX15_approach wsX15_no := goodIn_r _ [13, 14, 85, 86] (by decide +kernel) (by decide +kernel)
set_option maxRecDepth 20000 in
theorem gX15_approach_X15_no : GoodIn wsX15_approach (wsV RX15 43 RX15 yX15_no wsX15_no) := goodIn_app (goodIn_of _ (by decide +kernel)) ggX15_approach_X15_no
set_option maxRecDepth 20000 in
theorem ggX15_approach_Jx4a65c_size_8abf5 : GoodIn wsX15_approach wsJx4a65c_size_8abf5 := goodIn_r _ [19, 20, 105, 106, 107] (by decide +kernel) (by decide +kernel)
set_option maxRecDepth 20000 in
theorem gX15_approach_Jx4a65c_size_8abf5_f24Jx4a65c : GoodIn wsX15_approach (va_wsF RX15 24 RJx4a65c ⟨"java/util/List", "size", "()I"⟩ yJx4a65c_size_8abf5 wsJx4a65c_size_8abf5) := goodIn_app (goodIn_of _ (by decide +kernel)) ggX15_approach_Jx4a65c_size_8abf5
set_option maxRecDepth 20000 in
theorem ggX15_approach_X13_init : GoodIn wsX15_approach wsX13_init := goodIn_r _ [23, 24, 25, 26, 27, 28, 29, 30, 101, 102, 103, 104] (by decide +kernel) (by decide +kernel)
set_option maxRecDepth 20000 in
theorem gX15_approach_X13_init : GoodIn wsX15_approach (wsX13_init) := ggX15_approach_X13_init
set_option maxRecDepth 20000 in
theorem ggX15_approach_Jx4a65c_add_9ea2d : GoodIn wsX15_approach wsJx4a65c_add_9ea2d := goodIn_r _ [34, 35, 36, 37, 20, 38, 39, 40, 18, 41, 42, 43, 44, 45, 46, 47, 48, 49, 50, 51, 52, 53, 54, 55, 56, 57, 58, 59, 60, 61, 62, 63, 64, 65, 66, 67, 68, 69, 70, 71, 72, 73, 74, 75, 76, 77, 78, 79, 80, 81, 82, 83, 84, 105, 106, 107] (by decide +kernel) (by decide +kernel)
set_option maxRecDepth 20000 in
theorem gX15_approach_Jx4a65c_add_9ea2d_f53Jx4a65c : GoodIn wsX15_approach (va_wsF RX15 53 RJx4a65c ⟨"java/util/List", "add", "(Ljava/lang/Object;)Z"⟩ yJx4a65c_add_9ea2d wsJx4a65c_add_9ea2d) := goodIn_app (goodIn_of _ (by decide +kernel)) ggX15_approach_Jx4a65c_add_9ea2d
theorem dX15_approach_0 : decode cX15_approach 0 = .ok (.aload_n 0, 1) := by decide +kernel
theorem dX15_approach_1 : decode cX15_approach 1 = .ok (.iload_n 1, 1) := by decide +kernel
theorem dX15_approach_2 : decode cX15_approach 2 = .ok (.iconst 1, 1) := by decide +kernel
theorem dX15_approach_3 : decode cX15_approach 3 = .ok (.sipush 500, 3) := by decide +kernel
theorem dX15_approach_6 : decode cX15_approach 6 = .ok (.invokestatic 30, 3) := by decide +kernel
theorem dX15_approach_9 : decode cX15_approach 9 = .ok (.ifCond .eq 17, 3) := by decide +kernel
theorem dX15_approach_12 : decode cX15_approach 12 = .ok (.iload_n 2, 1) := by decide +kernel
theorem dX15_approach_13 : decode cX15_approach 13 = .ok (.iconst 0, 1) := by decide +kernel
theorem dX15_approach_14 : decode cX15_approach 14 = .ok (.bipush 99, 2) := by decide +kernel
theorem dX15_approach_16 : decode cX15_approach 16 = .ok (.invokestatic 30, 3) := by decide +kernel
theorem dX15_approach_19 : decode cX15_approach 19 = .ok (.ifCond .eq 7, 3) := by decide +kernel
theorem dX15_approach_22 : decode cX15_approach 22 = .ok (.iconst 1, 1) := by decide +kernel
theorem dX15_approach_23 : decode cX15_approach 23 = .ok (.goto 4, 3) := by decide +kernel
theorem dX15_approach_26 : decode cX15_approach 26 = .ok (.iconst 0, 1) := by decide +kernel
theorem dX15_approach_27 : decode cX15_approach 27 = .ok (.iconst 1, 1) := by decide +kernel
theorem dX15_approach_28 : decode cX15_approach 28 = .ok (.invokevirtual 43, 3) := by decide +kernel
theorem dX15_approach_31 : decode cX15_approach 31 = .ok (.ifCond .ne 32, 3) := by decide +kernel
theorem dX15_approach_34 : decode cX15_approach 34 = .ok (.aload_n 0, 1) := by decide +kernel
theorem dX15_approach_35 : decode cX15_approach 35 = .ok (.aload_n 0, 1) := by decide +kernel
theorem dX15_approach_36 : decode cX15_approach 36 = .ok (.getfield 10, 3) := by decide +kernel
theorem dX15_approach_39 : decode cX15_approach 39 = .ok (.getfield 156, 3) := by decide +kernel
theorem dX15_approach_42 : decode cX15_approach 42 = .ok (.invokeinterface 24 1, 5) := by decide +kernel
theorem dX15_approach_47 : decode cX15_approach 47 = .ok (.iconst 4, 1) := by decide +kernel
theorem dX15_approach_48 : decode cX15_approach 48 = .ok (.if_icmp .ge 7, 3) := by decide +kernel
theorem dX15_approach_51 : decode cX15_approach 51 = .ok (.iconst 1, 1) := by decide +kernel
theorem dX15_approach_52 : decode cX15_approach 52 = .ok (.goto 4, 3) := by decide +kernel
theorem dX15_approach_55 : decode cX15_approach 55 = .ok (.iconst 0, 1) := by decide +kernel
theorem dX15_approach_56 : decode cX15_approach 56 = .ok (.iconst 2, 1) := by decide +kernel
theorem dX15_approach_57 : decode cX15_approach 57 = .ok (.invokevirtual 43, 3) := by decide +kernel
theorem dX15_approach_60 : decode cX15_approach 60 = .ok (.ifCond .eq 5, 3) := by decide +kernel
theorem dX15_approach_63 : decode cX15_approach 63 = .ok (.iconst 0, 1) := by decide +kernel
theorem dX15_approach_64 : decode cX15_approach 64 = .ok (.ireturn, 1) := by decide +kernel
theorem dX15_approach_65 : decode cX15_approach 65 = .ok (.aload_n 0, 1) := by decide +kernel
theorem dX15_approach_66 : decode cX15_approach 66 = .ok (.getfield 10, 3) := by decide +kernel
theorem dX15_approach_69 : decode cX15_approach 69 = .ok (.getfield 156, 3) := by decide +kernel
theorem dX15_approach_72 : decode cX15_approach 72 = .ok (.new 159, 3) := by decide +kernel
theorem dX15_approach_75 : decode cX15_approach 75 = .ok (.dup, 1) := by decide +kernel
theorem dX15_approach_76 : decode cX15_approach 76 = .ok (.iload_n 1, 1) := by decide +kernel
theorem dX15_approach_77 : decode cX15_approach 77 = .ok (.iload_n 2, 1) := by decide +kernel
theorem dX15_approach_78 : decode cX15_approach 78 = .ok (.invokespecial 161, 3) := by decide +kernel
theorem dX15_approach_81 : decode cX15_approach 81 = .ok (.invokeinterface 53 2, 5) := by decide +kernel
theorem dX15_approach_86 : decode cX15_approach 86 = .ok (.pop, 1) := by decide +kernel
theorem dX15_approach_87 : decode cX15_approach 87 = .ok (.aload_n 0, 1) := by decide +kernel
theorem dX15_approach_88 : decode cX15_approach 88 = .ok (.getfield 10, 3) := by decide +kernel
theorem dX15_approach_91 : decode cX15_approach 91 = .ok (.getfield 156, 3) := by decide +kernel
theorem dX15_approach_94 : decode cX15_approach 94 = .ok (.invokeinterface 24 1, 5) := by decide +kernel
theorem dX15_approach_99 : decode cX15_approach 99 = .ok (.iconst 1, 1) := by decide +kernel
theorem dX15_approach_100 : decode cX15_approach 100 = .ok (.isub, 1) := by decide +kernel
theorem dX15_approach_101 : decode cX15_approach 101 = .ok (.ireturn, 1) := by decide +kernel
set_option maxRecDepth 20000 in
theorem ggX15_noShip_Jx4a65c_size_8abf5 : GoodIn wsX15_noShip wsJx4a65c_size_8abf5 := goodIn_r _ [7, 8, 34, 35, 36] (by decide +kernel) (by decide +kernel)
set_option maxRecDepth 20000 in
theorem gX15_noShip_Jx4a65c_size_8abf5_f24Jx4a65c : GoodIn wsX15_noShip (va_wsF RX15 24 RJx4a65c ⟨"java/util/List", "size", "()I"⟩ yJx4a65c_size_8abf5 wsJx4a65c_size_8abf5) := goodIn_app (goodIn_of _ (by decide +kernel)) ggX15_noShip_Jx4a65c_size_8abf5
set_option maxRecDepth 20000 in
theorem ggX15_noShip_X15_isIn : GoodIn wsX15_noShip wsX15_isIn := goodIn_r _ [12] (by decide +kernel) (by decide +kernel)
set_option maxRecDepth 20000 in
theorem gX15_noShip_X15_isIn : GoodIn wsX15_noShip (va_wsS RX15 30 yX15_isIn wsX15_isIn) := goodIn_app (goodIn_of _ (by decide +kernel)) ggX15_noShip_X15_isIn
set_option maxRecDepth 20000 in
theorem ggX15_noShip_X15_no : GoodIn wsX15_noShip wsX15_no := goodIn_r _ [16, 17, 18, 19] (by decide +kernel) (by decide +kernel)
set_option maxRecDepth 20000 in
theorem gX15_noShip_X15_no : GoodIn wsX15_noShip (wsV RX15 43 RX15 yX15_no wsX15_no) := goodIn_app (goodIn_of _ (by decide +kernel)) ggX15_noShip_X15_no
theorem dX15_noShip_0 : decode cX15_noShip 0 = .ok (.aload_n 0, 1) := by decide +kernel
theorem dX15_noShip_1 : decode cX15_noShip 1 = .ok (.iload_n 1, 1) := by decide +kernel
theorem dX15_noShip_2 : decode cX15_noShip 2 = .ok (.iconst 0, 1) := by decide +kernel
theorem dX15_noShip_3 : decode cX15_noShip 3 = .ok (.aload_n 0, 1) := by decide +kernel
theorem dX15_noShip_4 : decode cX15_noShip 4 = .ok (.getfield 10, 3) := by decide +kernel
theorem dX15_noShip_7 : decode cX15_noShip 7 = .ok (.getfield 156, 3) := by decide +kernel
theorem dX15_noShip_10 : decode cX15_noShip 10 = .ok (.invokeinterface 24 1, 5) := by decide +kernel
theorem dX15_noShip_15 : decode cX15_noShip 15 = .ok (.iconst 1, 1) := by decide +kernel
theorem dX15_noShip_16 : decode cX15_noShip 16 = .ok (.isub, 1) := by decide +kernel
theorem dX15_noShip_17 : decode cX15_noShip 17 = .ok (.invokestatic 30, 3) := by decide +kernel
theorem dX15_noShip_20 : decode cX15_noShip 20 = .ok (.iconst 1, 1) := by decide +kernel
theorem dX15_noShip_21 : decode cX15_noShip 21 = .ok (.invokevirtual 43, 3) := by decide +kernel
theorem dX15_noShip_24 : decode cX15_noShip 24 = .ok (.ireturn, 1) := by decide +kernel
set_option maxRecDepth 20000 in
theorem ggX15_burn_X15_noShip : GoodIn wsX15_burn wsX15_noShip := goodIn_r _ [15, 1, 2, 16, 17, 18, 19, 20, 21, 22, 23, 14, 24, 25, 26, 27, 28, 29, 47, 48, 49, 50, 51, 52, 53, 54, 55, 56, 57, 58, 59, 60, 61, 62, 67, 68, 69] (by decide +kernel) (by decide +kernel)
set_option maxRecDepth 20000 in
theorem gX15_burn_X15_noShip : GoodIn wsX15_burn (wsV RX15 162 RX15 yX15_noShip wsX15_noShip) := goodIn_app (goodIn_of _ (by decide +kernel)) ggX15_burn_X15_noShip
set_option maxRecDepth 20000 in
theorem ggX15_burn_X15_isIn : GoodIn wsX15_burn wsX15_isIn := goodIn_r _ [24] (by decide +kernel) (by decide +kernel)
set_option maxRecDepth 20000 in
theorem gX15_burn_X15_isIn : GoodIn wsX15_burn (va_wsS RX15 30 yX15_isIn wsX15_isIn) := goodIn_app (goodIn_of _ (by decide +kernel)) ggX15_burn_X15_isIn
set_option maxRecDepth 20000 in
theorem ggX15_burn_X15_no : GoodIn wsX15_burn wsX15_no := goodIn_r _ [28, 29, 47, 48] (by decide +kernel) (by decide +kernel)
set_option maxRecDepth 20000 in
theorem gX15_burn_X15_no : GoodIn wsX15_burn (wsV RX15 43 RX15 yX15_no wsX15_no) := goodIn_app (goodIn_of _ (by decide +kernel)) ggX15_burn_X15_no
set_option maxRecDepth 20000 in
theorem ggX15_burn_Jx4a65c_get_915e3 : GoodIn wsX15_burn wsJx4a65c_get_915e3 := goodIn_r _ [33, 21, 34, 35, 36, 37, 38, 39, 40, 41, 42, 43, 44, 19, 45, 46, 67, 68, 69] (by decide +kernel) (by decide +kernel)
set_option maxRecDepth 20000 in
theorem gX15_burn_Jx4a65c_get_915e3_f75Jx4a65c : GoodIn wsX15_burn (va_wsF RX15 75 RJx4a65c ⟨"java/util/List", "get", "(I)Ljava/lang/Object;"⟩ yJx4a65c_get_915e3 wsJx4a65c_get_915e3) := goodIn_app (goodIn_of _ (by decide +kernel)) ggX15_burn_Jx4a65c_get_915e3
theorem dX15_burn_0 : decode cX15_burn 0 = .ok (.aload_n 0, 1) := by decide +kernel
theorem dX15_burn_1 : decode cX15_burn 1 = .ok (.iload_n 1, 1) := by decide +kernel
theorem dX15_burn_2 : decode cX15_burn 2 = .ok (.invokevirtual 162, 3) := by decide +kernel
theorem dX15_burn_5 : decode cX15_burn 5 = .ok (.ifCond .ne 19, 3) := by decide +kernel
theorem dX15_burn_8 : decode cX15_burn 8 = .ok (.aload_n 0, 1) := by decide +kernel
theorem dX15_burn_9 : decode cX15_burn 9 = .ok (.iload_n 2, 1) := by decide +kernel
theorem dX15_burn_10 : decode cX15_burn 10 = .ok (.bipush (-9), 2) := by decide +kernel
theorem dX15_burn_12 : decode cX15_burn 12 = .ok (.bipush 9, 2) := by decide +kernel
theorem dX15_burn_14 : decode cX15_burn 14 = .ok (.invokestatic 30, 3) := by decide +kernel
theorem dX15_burn_17 : decode cX15_burn 17 = .ok (.iconst 2, 1) := by decide +kernel
theorem dX15_burn_18 : decode cX15_burn 18 = .ok (.invokevirtual 43, 3) := by decide +kernel
theorem dX15_burn_21 : decode cX15_burn 21 = .ok (.ifCond .eq 5, 3) := by decide +kernel
theorem dX15_burn_24 : decode cX15_burn 24 = .ok (.iconst 0, 1) := by decide +kernel
theorem dX15_burn_25 : decode cX15_burn 25 = .ok (.ireturn, 1) := by decide +kernel
theorem dX15_burn_26 : decode cX15_burn 26 = .ok (.aload_n 0, 1) := by decide +kernel
theorem dX15_burn_27 : decode cX15_burn 27 = .ok (.getfield 10, 3) := by decide +kernel
theorem dX15_burn_30 : decode cX15_burn 30 = .ok (.getfield 156, 3) := by decide +kernel
theorem dX15_burn_33 : decode cX15_burn 33 = .ok (.iload_n 1, 1) := by decide +kernel
theorem dX15_burn_34 : decode cX15_burn 34 = .ok (.invokeinterface 75 2, 5) := by decide +kernel
theorem dX15_burn_39 : decode cX15_burn 39 = .ok (.checkcast 159, 3) := by decide +kernel
theorem dX15_burn_42 : decode cX15_burn 42 = .ok (.astore_n 3, 1) := by decide +kernel
theorem dX15_burn_43 : decode cX15_burn 43 = .ok (.aload_n 0, 1) := by decide +kernel
theorem dX15_burn_44 : decode cX15_burn 44 = .ok (.aload_n 3, 1) := by decide +kernel
theorem dX15_burn_45 : decode cX15_burn 45 = .ok (.getfield 165, 3) := by decide +kernel
theorem dX15_burn_48 : decode cX15_burn 48 = .ok (.iconst (-1), 1) := by decide +kernel
theorem dX15_burn_49 : decode cX15_burn 49 = .ok (.if_icmp .eq 7, 3) := by decide +kernel
theorem dX15_burn_52 : decode cX15_burn 52 = .ok (.iconst 1, 1) := by decide +kernel
theorem dX15_burn_53 : decode cX15_burn 53 = .ok (.goto 4, 3) := by decide +kernel
theorem dX15_burn_56 : decode cX15_burn 56 = .ok (.iconst 0, 1) := by decide +kernel
theorem dX15_burn_57 : decode cX15_burn 57 = .ok (.iconst 3, 1) := by decide +kernel
theorem dX15_burn_58 : decode cX15_burn 58 = .ok (.invokevirtual 43, 3) := by decide +kernel
theorem dX15_burn_61 : decode cX15_burn 61 = .ok (.ifCond .ne 27, 3) := by decide +kernel
theorem dX15_burn_64 : decode cX15_burn 64 = .ok (.aload_n 0, 1) := by decide +kernel
theorem dX15_burn_65 : decode cX15_burn 65 = .ok (.aload_n 3, 1) := by decide +kernel
theorem dX15_burn_66 : decode cX15_burn 66 = .ok (.getfield 168, 3) := by decide +kernel
theorem dX15_burn_69 : decode cX15_burn 69 = .ok (.iload_n 2, 1) := by decide +kernel
theorem dX15_burn_70 : decode cX15_burn 70 = .ok (.invokestatic 171, 3) := by decide +kernel
theorem dX15_burn_73 : decode cX15_burn 73 = .ok (.if_icmp .lt 7, 3) := by decide +kernel
theorem dX15_burn_76 : decode cX15_burn 76 = .ok (.iconst 1, 1) := by decide +kernel
theorem dX15_burn_77 : decode cX15_burn 77 = .ok (.goto 4, 3) := by decide +kernel
theorem dX15_burn_80 : decode cX15_burn 80 = .ok (.iconst 0, 1) := by decide +kernel
theorem dX15_burn_81 : decode cX15_burn 81 = .ok (.iconst 4, 1) := by decide +kernel
theorem dX15_burn_82 : decode cX15_burn 82 = .ok (.invokevirtual 43, 3) := by decide +kernel
theorem dX15_burn_85 : decode cX15_burn 85 = .ok (.ifCond .eq 5, 3) := by decide +kernel
theorem dX15_burn_88 : decode cX15_burn 88 = .ok (.iconst 0, 1) := by decide +kernel
theorem dX15_burn_89 : decode cX15_burn 89 = .ok (.ireturn, 1) := by decide +kernel
theorem dX15_burn_90 : decode cX15_burn 90 = .ok (.aload_n 3, 1) := by decide +kernel
theorem dX15_burn_91 : decode cX15_burn 91 = .ok (.dup, 1) := by decide +kernel
theorem dX15_burn_92 : decode cX15_burn 92 = .ok (.getfield 168, 3) := by decide +kernel
theorem dX15_burn_95 : decode cX15_burn 95 = .ok (.iload_n 2, 1) := by decide +kernel
theorem dX15_burn_96 : decode cX15_burn 96 = .ok (.invokestatic 171, 3) := by decide +kernel
theorem dX15_burn_99 : decode cX15_burn 99 = .ok (.isub, 1) := by decide +kernel
theorem dX15_burn_100 : decode cX15_burn 100 = .ok (.putfield 168, 3) := by decide +kernel
theorem dX15_burn_103 : decode cX15_burn 103 = .ok (.aload_n 3, 1) := by decide +kernel
theorem dX15_burn_104 : decode cX15_burn 104 = .ok (.dup, 1) := by decide +kernel
theorem dX15_burn_105 : decode cX15_burn 105 = .ok (.getfield 177, 3) := by decide +kernel
theorem dX15_burn_108 : decode cX15_burn 108 = .ok (.iload_n 2, 1) := by decide +kernel
theorem dX15_burn_109 : decode cX15_burn 109 = .ok (.iadd, 1) := by decide +kernel
theorem dX15_burn_110 : decode cX15_burn 110 = .ok (.putfield 177, 3) := by decide +kernel
theorem dX15_burn_113 : decode cX15_burn 113 = .ok (.aload_n 3, 1) := by decide +kernel
theorem dX15_burn_114 : decode cX15_burn 114 = .ok (.getfield 168, 3) := by decide +kernel
theorem dX15_burn_117 : decode cX15_burn 117 = .ok (.ireturn, 1) := by decide +kernel
set_option maxRecDepth 20000 in
theorem ggX15_pass_X15_isIn : GoodIn wsX15_pass wsX15_isIn := goodIn_r _ [6] (by decide +kernel) (by decide +kernel)
set_option maxRecDepth 20000 in
theorem gX15_pass_X15_isIn : GoodIn wsX15_pass (va_wsS RX15 30 yX15_isIn wsX15_isIn) := goodIn_app (goodIn_of _ (by decide +kernel)) ggX15_pass_X15_isIn
set_option maxRecDepth 20000 in
theorem ggX15_pass_X15_no : GoodIn wsX15_pass wsX15_no := goodIn_r _ [10, 11, 254, 255] (by decide +kernel) (by decide +kernel)
set_option maxRecDepth 20000 in
theorem gX15_pass_X15_no : GoodIn wsX15_pass (wsV RX15 43 RX15 yX15_no wsX15_no) := goodIn_app (goodIn_of _ (by decide +kernel)) ggX15_pass_X15_no
set_option maxRecDepth 20000 in
theorem ggX15_pass_X14_passes : GoodIn wsX15_pass wsX14_passes := goodIn_r _ [16, 17, 18, 19, 20, 21, 22, 23, 24, 25, 26, 27, 28, 29, 30, 31, 32, 33, 34, 35, 15, 36, 37, 38, 39, 40, 41, 42, 43, 44, 45, 46, 47, 48, 49, 50, 51, 52, 53, 54, 55, 56, 57, 58, 59, 60, 61, 62, 63, 64, 65, 66, 67, 68, 69, 70, 71, 72, 73, 74, 75, 76, 77, 78, 79, 80, 81, 82, 83, 84, 85, 86, 87, 88, 89, 90, 91, 92, 93, 94, 95, 96, 97, 98, 99, 100, 101, 102, 103, 104, 105, 106, 107, 108, 109, 110, 111, 112, 113, 114, 115, 116, 117, 118, 119, 120, 121, 122, 123, 124, 125, 126, 127, 128, 129, 130, 131, 132, 133, 134, 135, 136, 137, 138, 139, 140, 141, 142, 143, 144, 145, 146, 147, 148, 149, 150, 151, 152, 153, 154, 155, 156, 157, 158, 159, 160, 161, 162, 163, 164, 165, 166, 167, 168, 169, 170, 171, 172, 173, 174, 175, 176, 177, 178, 179, 180, 181, 182, 183, 184, 185, 186, 187, 188, 189, 190, 191, 192, 193, 194, 195, 196, 197, 198, 199, 200, 201, 202, 203, 204, 205, 206, 207, 208, 209, 210, 211, 212, 213, 214, 215, 216, 217, 218, 219, 220, 221, 222, 223, 224, 225, 226, 227, 228, 229, 230, 231, 232, 233, 234, 235, 236, 237, 238, 239, 240, 241, 242, 243, 244, 245, 246, 247, 248, 249, 250, 251, 252, 253, 256, 257, 258, 259, 260, 261, 262, 263, 264, 265, 266, 267, 268, 269, 270, 271, 272, 273, 274, 275, 276, 277, 278, 279, 280, 281, 282, 283, 284, 285, 286, 287, 288, 289, 290, 291, 292, 293, 294, 295, 296] (by decide +kernel) (by decide +kernel)
set_option maxRecDepth 20000 in
theorem gX15_pass_X14_passes : GoodIn wsX15_pass (wsV RX15 180 RX14 yX14_passes wsX14_passes) := goodIn_app (goodIn_of _ (by decide +kernel)) ggX15_pass_X14_passes
theorem dX15_pass_0 : decode cX15_pass 0 = .ok (.aload_n 0, 1) := by decide +kernel
theorem dX15_pass_1 : decode cX15_pass 1 = .ok (.iload_n 1, 1) := by decide +kernel
theorem dX15_pass_2 : decode cX15_pass 2 = .ok (.iconst 1, 1) := by decide +kernel
theorem dX15_pass_3 : decode cX15_pass 3 = .ok (.bipush 90, 2) := by decide +kernel
theorem dX15_pass_5 : decode cX15_pass 5 = .ok (.invokestatic 30, 3) := by decide +kernel
theorem dX15_pass_8 : decode cX15_pass 8 = .ok (.iconst 1, 1) := by decide +kernel
theorem dX15_pass_9 : decode cX15_pass 9 = .ok (.invokevirtual 43, 3) := by decide +kernel
theorem dX15_pass_12 : decode cX15_pass 12 = .ok (.ifCond .ne 31, 3) := by decide +kernel
theorem dX15_pass_15 : decode cX15_pass 15 = .ok (.aload_n 0, 1) := by decide +kernel
theorem dX15_pass_16 : decode cX15_pass 16 = .ok (.aload_n 0, 1) := by decide +kernel
theorem dX15_pass_17 : decode cX15_pass 17 = .ok (.getfield 10, 3) := by decide +kernel
theorem dX15_pass_20 : decode cX15_pass 20 = .ok (.getfield 150, 3) := by decide +kernel
theorem dX15_pass_23 : decode cX15_pass 23 = .ok (.iload_n 1, 1) := by decide +kernel
theorem dX15_pass_24 : decode cX15_pass 24 = .ok (.iadd, 1) := by decide +kernel
theorem dX15_pass_25 : decode cX15_pass 25 = .ok (.sipush 9999, 3) := by decide +kernel
theorem dX15_pass_28 : decode cX15_pass 28 = .ok (.if_icmp .gt 7, 3) := by decide +kernel
theorem dX15_pass_31 : decode cX15_pass 31 = .ok (.iconst 1, 1) := by decide +kernel
theorem dX15_pass_32 : decode cX15_pass 32 = .ok (.goto 4, 3) := by decide +kernel
theorem dX15_pass_35 : decode cX15_pass 35 = .ok (.iconst 0, 1) := by decide +kernel
theorem dX15_pass_36 : decode cX15_pass 36 = .ok (.iconst 2, 1) := by decide +kernel
theorem dX15_pass_37 : decode cX15_pass 37 = .ok (.invokevirtual 43, 3) := by decide +kernel
theorem dX15_pass_40 : decode cX15_pass 40 = .ok (.ifCond .eq 5, 3) := by decide +kernel
theorem dX15_pass_43 : decode cX15_pass 43 = .ok (.iconst 0, 1) := by decide +kernel
theorem dX15_pass_44 : decode cX15_pass 44 = .ok (.ireturn, 1) := by decide +kernel
theorem dX15_pass_45 : decode cX15_pass 45 = .ok (.iconst 0, 1) := by decide +kernel
theorem dX15_pass_46 : decode cX15_pass 46 = .ok (.istore_n 2, 1) := by decide +kernel
theorem dX15_pass_47 : decode cX15_pass 47 = .ok (.iload_n 2, 1) := by decide +kernel
theorem dX15_pass_48 : decode cX15_pass 48 = .ok (.iload_n 1, 1) := by decide +kernel
theorem dX15_pass_49 : decode cX15_pass 49 = .ok (.if_icmp .ge 16, 3) := by decide +kernel
theorem dX15_pass_52 : decode cX15_pass 52 = .ok (.aload_n 0, 1) := by decide +kernel
theorem dX15_pass_53 : decode cX15_pass 53 = .ok (.getfield 10, 3) := by decide +kernel
theorem dX15_pass_56 : decode cX15_pass 56 = .ok (.invokevirtual 180, 3) := by decide +kernel
theorem dX15_pass_59 : decode cX15_pass 59 = .ok (.iinc 2 1, 3) := by decide +kernel
theorem dX15_pass_62 : decode cX15_pass 62 = .ok (.goto (-15), 3) := by decide +kernel
theorem dX15_pass_65 : decode cX15_pass 65 = .ok (.aload_n 0, 1) := by decide +kernel
theorem dX15_pass_66 : decode cX15_pass 66 = .ok (.getfield 10, 3) := by decide +kernel
theorem dX15_pass_69 : decode cX15_pass 69 = .ok (.getfield 150, 3) := by decide +kernel
theorem dX15_pass_72 : decode cX15_pass 72 = .ok (.ireturn, 1) := by decide +kernel
theorem dX15_endSafe_0 : decode cX15_endSafe 0 = .ok (.aload_n 0, 1) := by decide +kernel
theorem dX15_endSafe_1 : decode cX15_endSafe 1 = .ok (.getfield 10, 3) := by decide +kernel
theorem dX15_endSafe_4 : decode cX15_endSafe 4 = .ok (.getfield 98, 3) := by decide +kernel
theorem dX15_endSafe_7 : decode cX15_endSafe 7 = .ok (.istore_n 1, 1) := by decide +kernel
theorem dX15_endSafe_8 : decode cX15_endSafe 8 = .ok (.aload_n 0, 1) := by decide +kernel
theorem dX15_endSafe_9 : decode cX15_endSafe 9 = .ok (.getfield 10, 3) := by decide +kernel
theorem dX15_endSafe_12 : decode cX15_endSafe 12 = .ok (.iconst 0, 1) := by decide +kernel
theorem dX15_endSafe_13 : decode cX15_endSafe 13 = .ok (.putfield 98, 3) := by decide +kernel
theorem dX15_endSafe_16 : decode cX15_endSafe 16 = .ok (.iload_n 1, 1) := by decide +kernel
theorem dX15_endSafe_17 : decode cX15_endSafe 17 = .ok (.ireturn, 1) := by decide +kernel
set_option maxRecDepth 20000 in
theorem ggX15_oxygen_X15_isRoom : GoodIn wsX15_oxygen wsX15_isRoom := goodIn_r _ [8, 1, 2, 9, 10, 11, 12, 13, 14, 15, 16, 7, 17, 46, 47, 48, 49, 50, 51, 52, 53, 54, 55, 56, 57, 58, 59, 60, 61, 62, 63, 64] (by decide +kernel) (by decide +kernel)
set_option maxRecDepth 20000 in
theorem gX15_oxygen_X15_isRoom : GoodIn wsX15_oxygen (wsV RX15 63 RX15 yX15_isRoom wsX15_isRoom) := goodIn_app (goodIn_of _ (by decide +kernel)) ggX15_oxygen_X15_isRoom
set_option maxRecDepth 20000 in
theorem ggX15_oxygen_X15_no : GoodIn wsX15_oxygen wsX15_no := goodIn_r _ [21, 22, 46, 47] (by decide +kernel) (by decide +kernel)
set_option maxRecDepth 20000 in
theorem gX15_oxygen_X15_no : GoodIn wsX15_oxygen (wsV RX15 43 RX15 yX15_no wsX15_no) := goodIn_app (goodIn_of _ (by decide +kernel)) ggX15_oxygen_X15_no
set_option maxRecDepth 20000 in
theorem ggX15_oxygen_Jx4a65c_get_915e3 : GoodIn wsX15_oxygen wsJx4a65c_get_915e3 := goodIn_r _ [26, 14, 27, 28, 29, 30, 31, 32, 33, 34, 35, 36, 37, 12, 38, 39, 62, 63, 64] (by decide +kernel) (by decide +kernel)
set_option maxRecDepth 20000 in
theorem gX15_oxygen_Jx4a65c_get_915e3_f75Jx4a65c : GoodIn wsX15_oxygen (va_wsF RX15 75 RJx4a65c ⟨"java/util/List", "get", "(I)Ljava/lang/Object;"⟩ yJx4a65c_get_915e3 wsJx4a65c_get_915e3) := goodIn_app (goodIn_of _ (by decide +kernel)) ggX15_oxygen_Jx4a65c_get_915e3
set_option maxRecDepth 20000 in
theorem ggX15_oxygen_J6_intValue_8abf5 : GoodIn wsX15_oxygen wsJ6_intValue_8abf5 := goodIn_r _ [44, 45, 65] (by decide +kernel) (by decide +kernel)
set_option maxRecDepth 20000 in
theorem gX15_oxygen_J6_intValue_8abf5 : GoodIn wsX15_oxygen (wsV RX15 87 RJ6 yJ6_intValue_8abf5 wsJ6_intValue_8abf5) := goodIn_app (goodIn_of _ (by decide +kernel)) ggX15_oxygen_J6_intValue_8abf5
theorem dX15_oxygen_0 : decode cX15_oxygen 0 = .ok (.aload_n 0, 1) := by decide +kernel
theorem dX15_oxygen_1 : decode cX15_oxygen 1 = .ok (.aload_n 0, 1) := by decide +kernel
theorem dX15_oxygen_2 : decode cX15_oxygen 2 = .ok (.iload_n 1, 1) := by decide +kernel
theorem dX15_oxygen_3 : decode cX15_oxygen 3 = .ok (.invokevirtual 63, 3) := by decide +kernel
theorem dX15_oxygen_6 : decode cX15_oxygen 6 = .ok (.iconst 1, 1) := by decide +kernel
theorem dX15_oxygen_7 : decode cX15_oxygen 7 = .ok (.invokevirtual 43, 3) := by decide +kernel
theorem dX15_oxygen_10 : decode cX15_oxygen 10 = .ok (.ifCond .eq 7, 3) := by decide +kernel
theorem dX15_oxygen_13 : decode cX15_oxygen 13 = .ok (.iconst 0, 1) := by decide +kernel
theorem dX15_oxygen_14 : decode cX15_oxygen 14 = .ok (.goto 22, 3) := by decide +kernel
theorem dX15_oxygen_17 : decode cX15_oxygen 17 = .ok (.aload_n 0, 1) := by decide +kernel
theorem dX15_oxygen_18 : decode cX15_oxygen 18 = .ok (.getfield 10, 3) := by decide +kernel
theorem dX15_oxygen_21 : decode cX15_oxygen 21 = .ok (.getfield 20, 3) := by decide +kernel
theorem dX15_oxygen_24 : decode cX15_oxygen 24 = .ok (.iload_n 1, 1) := by decide +kernel
theorem dX15_oxygen_25 : decode cX15_oxygen 25 = .ok (.invokeinterface 75 2, 5) := by decide +kernel
theorem dX15_oxygen_30 : decode cX15_oxygen 30 = .ok (.checkcast 48, 3) := by decide +kernel
theorem dX15_oxygen_33 : decode cX15_oxygen 33 = .ok (.invokevirtual 87, 3) := by decide +kernel
theorem dX15_oxygen_36 : decode cX15_oxygen 36 = .ok (.ireturn, 1) := by decide +kernel
set_option maxRecDepth 20000 in
theorem ggX15_carbon_X15_isRoom : GoodIn wsX15_carbon wsX15_isRoom := goodIn_r _ [8, 1, 9, 10, 11, 12, 13, 14, 15, 16, 17, 7, 18, 47, 48, 49, 50, 51, 52, 53, 54, 55, 56, 57, 58, 59, 60, 61, 62, 63, 64, 65] (by decide +kernel) (by decide +kernel)
set_option maxRecDepth 20000 in
theorem gX15_carbon_X15_isRoom : GoodIn wsX15_carbon (wsV RX15 63 RX15 yX15_isRoom wsX15_isRoom) := goodIn_app (goodIn_of _ (by decide +kernel)) ggX15_carbon_X15_isRoom
set_option maxRecDepth 20000 in
theorem ggX15_carbon_X15_no : GoodIn wsX15_carbon wsX15_no := goodIn_r _ [22, 23, 47, 48] (by decide +kernel) (by decide +kernel)
set_option maxRecDepth 20000 in
theorem gX15_carbon_X15_no : GoodIn wsX15_carbon (wsV RX15 43 RX15 yX15_no wsX15_no) := goodIn_app (goodIn_of _ (by decide +kernel)) ggX15_carbon_X15_no
set_option maxRecDepth 20000 in
theorem ggX15_carbon_Jx4a65c_get_915e3 : GoodIn wsX15_carbon wsJx4a65c_get_915e3 := goodIn_r _ [27, 15, 28, 29, 30, 31, 32, 33, 34, 35, 36, 37, 38, 13, 39, 40, 63, 64, 65] (by decide +kernel) (by decide +kernel)
set_option maxRecDepth 20000 in
theorem gX15_carbon_Jx4a65c_get_915e3_f75Jx4a65c : GoodIn wsX15_carbon (va_wsF RX15 75 RJx4a65c ⟨"java/util/List", "get", "(I)Ljava/lang/Object;"⟩ yJx4a65c_get_915e3 wsJx4a65c_get_915e3) := goodIn_app (goodIn_of _ (by decide +kernel)) ggX15_carbon_Jx4a65c_get_915e3
set_option maxRecDepth 20000 in
theorem ggX15_carbon_J6_intValue_8abf5 : GoodIn wsX15_carbon wsJ6_intValue_8abf5 := goodIn_r _ [45, 46, 66] (by decide +kernel) (by decide +kernel)
set_option maxRecDepth 20000 in
theorem gX15_carbon_J6_intValue_8abf5 : GoodIn wsX15_carbon (wsV RX15 87 RJ6 yJ6_intValue_8abf5 wsJ6_intValue_8abf5) := goodIn_app (goodIn_of _ (by decide +kernel)) ggX15_carbon_J6_intValue_8abf5
theorem dX15_carbon_0 : decode cX15_carbon 0 = .ok (.aload_n 0, 1) := by decide +kernel
theorem dX15_carbon_1 : decode cX15_carbon 1 = .ok (.aload_n 0, 1) := by decide +kernel
theorem dX15_carbon_2 : decode cX15_carbon 2 = .ok (.iload_n 1, 1) := by decide +kernel
theorem dX15_carbon_3 : decode cX15_carbon 3 = .ok (.invokevirtual 63, 3) := by decide +kernel
theorem dX15_carbon_6 : decode cX15_carbon 6 = .ok (.iconst 1, 1) := by decide +kernel
theorem dX15_carbon_7 : decode cX15_carbon 7 = .ok (.invokevirtual 43, 3) := by decide +kernel
theorem dX15_carbon_10 : decode cX15_carbon 10 = .ok (.ifCond .eq 7, 3) := by decide +kernel
theorem dX15_carbon_13 : decode cX15_carbon 13 = .ok (.iconst 0, 1) := by decide +kernel
theorem dX15_carbon_14 : decode cX15_carbon 14 = .ok (.goto 22, 3) := by decide +kernel
theorem dX15_carbon_17 : decode cX15_carbon 17 = .ok (.aload_n 0, 1) := by decide +kernel
theorem dX15_carbon_18 : decode cX15_carbon 18 = .ok (.getfield 10, 3) := by decide +kernel
theorem dX15_carbon_21 : decode cX15_carbon 21 = .ok (.getfield 57, 3) := by decide +kernel
theorem dX15_carbon_24 : decode cX15_carbon 24 = .ok (.iload_n 1, 1) := by decide +kernel
theorem dX15_carbon_25 : decode cX15_carbon 25 = .ok (.invokeinterface 75 2, 5) := by decide +kernel
theorem dX15_carbon_30 : decode cX15_carbon 30 = .ok (.checkcast 48, 3) := by decide +kernel
theorem dX15_carbon_33 : decode cX15_carbon 33 = .ok (.invokevirtual 87, 3) := by decide +kernel
theorem dX15_carbon_36 : decode cX15_carbon 36 = .ok (.ireturn, 1) := by decide +kernel
theorem dX15_water_0 : decode cX15_water 0 = .ok (.aload_n 0, 1) := by decide +kernel
theorem dX15_water_1 : decode cX15_water 1 = .ok (.getfield 10, 3) := by decide +kernel
theorem dX15_water_4 : decode cX15_water 4 = .ok (.getfield 183, 3) := by decide +kernel
theorem dX15_water_7 : decode cX15_water 7 = .ok (.ireturn, 1) := by decide +kernel
theorem dX15_battery_0 : decode cX15_battery 0 = .ok (.aload_n 0, 1) := by decide +kernel
theorem dX15_battery_1 : decode cX15_battery 1 = .ok (.getfield 10, 3) := by decide +kernel
theorem dX15_battery_4 : decode cX15_battery 4 = .ok (.getfield 186, 3) := by decide +kernel
theorem dX15_battery_7 : decode cX15_battery 7 = .ok (.ireturn, 1) := by decide +kernel
set_option maxRecDepth 20000 in
theorem ggX15_whereIs_X15_noPerson : GoodIn wsX15_whereIs wsX15_noPerson := goodIn_r _ [9, 1, 2, 10, 11, 12, 13, 14, 15, 16, 17, 8, 18, 19, 20, 21, 22, 23, 41, 42, 43, 44, 45, 46, 47, 48, 49, 50, 51, 52, 53, 54, 55, 56, 60, 61, 62] (by decide +kernel) (by decide +kernel)
set_option maxRecDepth 20000 in
theorem gX15_whereIs_X15_noPerson : GoodIn wsX15_whereIs (wsV RX15 139 RX15 yX15_noPerson wsX15_noPerson) := goodIn_app (goodIn_of _ (by decide +kernel)) ggX15_whereIs_X15_noPerson
set_option maxRecDepth 20000 in
theorem ggX15_whereIs_Jx4a65c_get_915e3 : GoodIn wsX15_whereIs wsJx4a65c_get_915e3 := goodIn_r _ [27, 15, 28, 29, 30, 31, 32, 33, 34, 35, 36, 37, 38, 13, 39, 40, 60, 61, 62] (by decide +kernel) (by decide +kernel)
set_option maxRecDepth 20000 in
theorem gX15_whereIs_Jx4a65c_get_915e3_f75Jx4a65c : GoodIn wsX15_whereIs (va_wsF RX15 75 RJx4a65c ⟨"java/util/List", "get", "(I)Ljava/lang/Object;"⟩ yJx4a65c_get_915e3 wsJx4a65c_get_915e3) := goodIn_app (goodIn_of _ (by decide +kernel)) ggX15_whereIs_Jx4a65c_get_915e3
theorem dX15_whereIs_0 : decode cX15_whereIs 0 = .ok (.aload_n 0, 1) := by decide +kernel
theorem dX15_whereIs_1 : decode cX15_whereIs 1 = .ok (.iload_n 1, 1) := by decide +kernel
theorem dX15_whereIs_2 : decode cX15_whereIs 2 = .ok (.invokevirtual 139, 3) := by decide +kernel
theorem dX15_whereIs_5 : decode cX15_whereIs 5 = .ok (.ifCond .eq 7, 3) := by decide +kernel
theorem dX15_whereIs_8 : decode cX15_whereIs 8 = .ok (.iconst 0, 1) := by decide +kernel
theorem dX15_whereIs_9 : decode cX15_whereIs 9 = .ok (.goto 22, 3) := by decide +kernel
theorem dX15_whereIs_12 : decode cX15_whereIs 12 = .ok (.aload_n 0, 1) := by decide +kernel
theorem dX15_whereIs_13 : decode cX15_whereIs 13 = .ok (.getfield 10, 3) := by decide +kernel
theorem dX15_whereIs_16 : decode cX15_whereIs 16 = .ok (.getfield 40, 3) := by decide +kernel
theorem dX15_whereIs_19 : decode cX15_whereIs 19 = .ok (.iload_n 1, 1) := by decide +kernel
theorem dX15_whereIs_20 : decode cX15_whereIs 20 = .ok (.invokeinterface 75 2, 5) := by decide +kernel
theorem dX15_whereIs_25 : decode cX15_whereIs 25 = .ok (.checkcast 111, 3) := by decide +kernel
theorem dX15_whereIs_28 : decode cX15_whereIs 28 = .ok (.getfield 116, 3) := by decide +kernel
theorem dX15_whereIs_31 : decode cX15_whereIs 31 = .ok (.ireturn, 1) := by decide +kernel
set_option maxRecDepth 20000 in
theorem ggX15_distance_X15_noShip : GoodIn wsX15_distance wsX15_noShip := goodIn_r _ [9, 1, 2, 10, 11, 12, 13, 14, 15, 16, 17, 8, 18, 19, 20, 21, 22, 23, 41, 42, 43, 44, 45, 46, 47, 48, 49, 50, 51, 52, 53, 54, 55, 56, 61, 62, 63] (by decide +kernel) (by decide +kernel)
set_option maxRecDepth 20000 in
theorem gX15_distance_X15_noShip : GoodIn wsX15_distance (wsV RX15 162 RX15 yX15_noShip wsX15_noShip) := goodIn_app (goodIn_of _ (by decide +kernel)) ggX15_distance_X15_noShip
set_option maxRecDepth 20000 in
theorem ggX15_distance_Jx4a65c_get_915e3 : GoodIn wsX15_distance wsJx4a65c_get_915e3 := goodIn_r _ [27, 15, 28, 29, 30, 31, 32, 33, 34, 35, 36, 37, 38, 13, 39, 40, 61, 62, 63] (by decide +kernel) (by decide +kernel)
set_option maxRecDepth 20000 in
theorem gX15_distance_Jx4a65c_get_915e3_f75Jx4a65c : GoodIn wsX15_distance (va_wsF RX15 75 RJx4a65c ⟨"java/util/List", "get", "(I)Ljava/lang/Object;"⟩ yJx4a65c_get_915e3 wsJx4a65c_get_915e3) := goodIn_app (goodIn_of _ (by decide +kernel)) ggX15_distance_Jx4a65c_get_915e3
theorem dX15_distance_0 : decode cX15_distance 0 = .ok (.aload_n 0, 1) := by decide +kernel
theorem dX15_distance_1 : decode cX15_distance 1 = .ok (.iload_n 1, 1) := by decide +kernel
theorem dX15_distance_2 : decode cX15_distance 2 = .ok (.invokevirtual 162, 3) := by decide +kernel
theorem dX15_distance_5 : decode cX15_distance 5 = .ok (.ifCond .eq 7, 3) := by decide +kernel
theorem dX15_distance_8 : decode cX15_distance 8 = .ok (.iconst 0, 1) := by decide +kernel
theorem dX15_distance_9 : decode cX15_distance 9 = .ok (.goto 22, 3) := by decide +kernel
theorem dX15_distance_12 : decode cX15_distance 12 = .ok (.aload_n 0, 1) := by decide +kernel
theorem dX15_distance_13 : decode cX15_distance 13 = .ok (.getfield 10, 3) := by decide +kernel
theorem dX15_distance_16 : decode cX15_distance 16 = .ok (.getfield 156, 3) := by decide +kernel
theorem dX15_distance_19 : decode cX15_distance 19 = .ok (.iload_n 1, 1) := by decide +kernel
theorem dX15_distance_20 : decode cX15_distance 20 = .ok (.invokeinterface 75 2, 5) := by decide +kernel
theorem dX15_distance_25 : decode cX15_distance 25 = .ok (.checkcast 159, 3) := by decide +kernel
theorem dX15_distance_28 : decode cX15_distance 28 = .ok (.getfield 165, 3) := by decide +kernel
theorem dX15_distance_31 : decode cX15_distance 31 = .ok (.ireturn, 1) := by decide +kernel
set_option maxRecDepth 20000 in
theorem ggX15_isOn_X15_isDevice : GoodIn wsX15_isOn wsX15_isDevice := goodIn_r _ [9, 1, 2, 10, 11, 12, 13, 14, 15, 16, 17, 8, 18, 41, 42, 43, 44, 45, 46, 47, 48, 49, 50, 51, 52, 53, 54, 55, 56, 61, 62, 63] (by decide +kernel) (by decide +kernel)
set_option maxRecDepth 20000 in
theorem gX15_isOn_X15_isDevice : GoodIn wsX15_isOn (wsV RX15 95 RX15 yX15_isDevice wsX15_isDevice) := goodIn_app (goodIn_of _ (by decide +kernel)) ggX15_isOn_X15_isDevice
set_option maxRecDepth 20000 in
theorem ggX15_isOn_X15_no : GoodIn wsX15_isOn wsX15_no := goodIn_r _ [22, 23, 41, 42] (by decide +kernel) (by decide +kernel)
set_option maxRecDepth 20000 in
theorem gX15_isOn_X15_no : GoodIn wsX15_isOn (wsV RX15 43 RX15 yX15_no wsX15_no) := goodIn_app (goodIn_of _ (by decide +kernel)) ggX15_isOn_X15_no
set_option maxRecDepth 20000 in
theorem ggX15_isOn_Jx4a65c_get_915e3 : GoodIn wsX15_isOn wsJx4a65c_get_915e3 := goodIn_r _ [27, 15, 28, 29, 30, 31, 32, 33, 34, 35, 36, 37, 38, 13, 39, 40, 61, 62, 63] (by decide +kernel) (by decide +kernel)
set_option maxRecDepth 20000 in
theorem gX15_isOn_Jx4a65c_get_915e3_f75Jx4a65c : GoodIn wsX15_isOn (va_wsF RX15 75 RJx4a65c ⟨"java/util/List", "get", "(I)Ljava/lang/Object;"⟩ yJx4a65c_get_915e3 wsJx4a65c_get_915e3) := goodIn_app (goodIn_of _ (by decide +kernel)) ggX15_isOn_Jx4a65c_get_915e3
theorem dX15_isOn_0 : decode cX15_isOn 0 = .ok (.aload_n 0, 1) := by decide +kernel
theorem dX15_isOn_1 : decode cX15_isOn 1 = .ok (.aload_n 0, 1) := by decide +kernel
theorem dX15_isOn_2 : decode cX15_isOn 2 = .ok (.iload_n 1, 1) := by decide +kernel
theorem dX15_isOn_3 : decode cX15_isOn 3 = .ok (.invokevirtual 95, 3) := by decide +kernel
theorem dX15_isOn_6 : decode cX15_isOn 6 = .ok (.iconst 1, 1) := by decide +kernel
theorem dX15_isOn_7 : decode cX15_isOn 7 = .ok (.invokevirtual 43, 3) := by decide +kernel
theorem dX15_isOn_10 : decode cX15_isOn 10 = .ok (.ifCond .ne 29, 3) := by decide +kernel
theorem dX15_isOn_13 : decode cX15_isOn 13 = .ok (.aload_n 0, 1) := by decide +kernel
theorem dX15_isOn_14 : decode cX15_isOn 14 = .ok (.getfield 10, 3) := by decide +kernel
theorem dX15_isOn_17 : decode cX15_isOn 17 = .ok (.getfield 37, 3) := by decide +kernel
theorem dX15_isOn_20 : decode cX15_isOn 20 = .ok (.iload_n 1, 1) := by decide +kernel
theorem dX15_isOn_21 : decode cX15_isOn 21 = .ok (.invokeinterface 75 2, 5) := by decide +kernel
theorem dX15_isOn_26 : decode cX15_isOn 26 = .ok (.checkcast 90, 3) := by decide +kernel
theorem dX15_isOn_29 : decode cX15_isOn 29 = .ok (.getfield 105, 3) := by decide +kernel
theorem dX15_isOn_32 : decode cX15_isOn 32 = .ok (.ifCond .eq 7, 3) := by decide +kernel
theorem dX15_isOn_35 : decode cX15_isOn 35 = .ok (.iconst 1, 1) := by decide +kernel
theorem dX15_isOn_36 : decode cX15_isOn 36 = .ok (.goto 4, 3) := by decide +kernel
theorem dX15_isOn_39 : decode cX15_isOn 39 = .ok (.iconst 0, 1) := by decide +kernel
theorem dX15_isOn_40 : decode cX15_isOn 40 = .ok (.ireturn, 1) := by decide +kernel
theorem dX15_isSafe_0 : decode cX15_isSafe 0 = .ok (.aload_n 0, 1) := by decide +kernel
theorem dX15_isSafe_1 : decode cX15_isSafe 1 = .ok (.getfield 10, 3) := by decide +kernel
theorem dX15_isSafe_4 : decode cX15_isSafe 4 = .ok (.getfield 98, 3) := by decide +kernel
theorem dX15_isSafe_7 : decode cX15_isSafe 7 = .ok (.ireturn, 1) := by decide +kernel
set_option maxRecDepth 20000 in
theorem ggX15_events_Jx4a65c_size_8abf5 : GoodIn wsX15_events wsJx4a65c_size_8abf5 := goodIn_r _ [7, 8, 25, 26, 27] (by decide +kernel) (by decide +kernel)
set_option maxRecDepth 20000 in
theorem gX15_events_Jx4a65c_size_8abf5_f24Jx4a65c : GoodIn wsX15_events (va_wsF RX15 24 RJx4a65c ⟨"java/util/List", "size", "()I"⟩ yJx4a65c_size_8abf5 wsJx4a65c_size_8abf5) := goodIn_app (goodIn_of _ (by decide +kernel)) ggX15_events_Jx4a65c_size_8abf5
theorem dX15_events_0 : decode cX15_events 0 = .ok (.aload_n 0, 1) := by decide +kernel
theorem dX15_events_1 : decode cX15_events 1 = .ok (.getfield 10, 3) := by decide +kernel
theorem dX15_events_4 : decode cX15_events 4 = .ok (.getfield 189, 3) := by decide +kernel
theorem dX15_events_7 : decode cX15_events 7 = .ok (.invokeinterface 24 1, 5) := by decide +kernel
theorem dX15_events_12 : decode cX15_events 12 = .ok (.ireturn, 1) := by decide +kernel
set_option maxRecDepth 20000 in
theorem ggX15_eventAt_Jx4a65c_size_8abf5 : GoodIn wsX15_eventAt wsJx4a65c_size_8abf5 := goodIn_r _ [9, 10, 58, 59, 60] (by decide +kernel) (by decide +kernel)
set_option maxRecDepth 20000 in
theorem gX15_eventAt_Jx4a65c_size_8abf5_f24Jx4a65c : GoodIn wsX15_eventAt (va_wsF RX15 24 RJx4a65c ⟨"java/util/List", "size", "()I"⟩ yJx4a65c_size_8abf5 wsJx4a65c_size_8abf5) := goodIn_app (goodIn_of _ (by decide +kernel)) ggX15_eventAt_Jx4a65c_size_8abf5
set_option maxRecDepth 20000 in
theorem ggX15_eventAt_X15_isIn : GoodIn wsX15_eventAt wsX15_isIn := goodIn_r _ [14] (by decide +kernel) (by decide +kernel)
set_option maxRecDepth 20000 in
theorem gX15_eventAt_X15_isIn : GoodIn wsX15_eventAt (va_wsS RX15 30 yX15_isIn wsX15_isIn) := goodIn_app (goodIn_of _ (by decide +kernel)) ggX15_eventAt_X15_isIn
set_option maxRecDepth 20000 in
theorem ggX15_eventAt_Jx4a65c_get_915e3 : GoodIn wsX15_eventAt wsJx4a65c_get_915e3 := goodIn_r _ [18, 10, 19, 20, 21, 22, 23, 24, 25, 26, 27, 28, 29, 8, 30, 31, 58, 59, 60] (by decide +kernel) (by decide +kernel)
set_option maxRecDepth 20000 in
theorem gX15_eventAt_Jx4a65c_get_915e3_f75Jx4a65c : GoodIn wsX15_eventAt (va_wsF RX15 75 RJx4a65c ⟨"java/util/List", "get", "(I)Ljava/lang/Object;"⟩ yJx4a65c_get_915e3 wsJx4a65c_get_915e3) := goodIn_app (goodIn_of _ (by decide +kernel)) ggX15_eventAt_Jx4a65c_get_915e3
set_option maxRecDepth 20000 in
theorem ggX15_eventAt_J11_charValue_ee9a4 : GoodIn wsX15_eventAt wsJ11_charValue_ee9a4 := goodIn_r _ [36, 37, 61] (by decide +kernel) (by decide +kernel)
set_option maxRecDepth 20000 in
theorem gX15_eventAt_J11_charValue_ee9a4 : GoodIn wsX15_eventAt (wsV RX15 194 RJ11 yJ11_charValue_ee9a4 wsJ11_charValue_ee9a4) := goodIn_app (goodIn_of _ (by decide +kernel)) ggX15_eventAt_J11_charValue_ee9a4
set_option maxRecDepth 20000 in
theorem ggX15_eventAt_X15_refuse : GoodIn wsX15_eventAt wsX15_refuse := goodIn_r _ [41, 3, 42, 43] (by decide +kernel) (by decide +kernel)
set_option maxRecDepth 20000 in
theorem gX15_eventAt_X15_refuse : GoodIn wsX15_eventAt (wsV RX15 198 RX15 yX15_refuse wsX15_refuse) := goodIn_app (goodIn_of _ (by decide +kernel)) ggX15_eventAt_X15_refuse
