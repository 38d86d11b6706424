theorem dX8_init_98 : decode cX8_init 98 = .ok (.iconst (-1), 1) := by decide +kernel
theorem dX8_init_99 : decode cX8_init 99 = .ok (.invokevirtual 36, 3) := by decide +kernel
theorem dX8_init_102 : decode cX8_init 102 = .ok (.iinc 1 1, 3) := by decide +kernel
theorem dX8_init_105 : decode cX8_init 105 = .ok (.goto (-30), 3) := by decide +kernel
theorem dX8_init_108 : decode cX8_init 108 = .ok (.return_, 1) := by decide +kernel
theorem dX8_thrown_0 : decode cX8_thrown 0 = .ok (.aload_n 0, 1) := by decide +kernel
theorem dX8_thrown_1 : decode cX8_thrown 1 = .ok (.getfield 40, 3) := by decide +kernel
theorem dX8_thrown_4 : decode cX8_thrown 4 = .ok (.ireturn, 1) := by decide +kernel
theorem dX8_fails_0 : decode cX8_fails 0 = .ok (.aload_n 0, 1) := by decide +kernel
theorem dX8_fails_1 : decode cX8_fails 1 = .ok (.iload_n 1, 1) := by decide +kernel
theorem dX8_fails_2 : decode cX8_fails 2 = .ok (.putfield 40, 3) := by decide +kernel
theorem dX8_fails_5 : decode cX8_fails 5 = .ok (.aload_n 0, 1) := by decide +kernel
theorem dX8_fails_6 : decode cX8_fails 6 = .ok (.iconst 0, 1) := by decide +kernel
theorem dX8_fails_7 : decode cX8_fails 7 = .ok (.putfield 43, 3) := by decide +kernel
theorem dX8_fails_10 : decode cX8_fails 10 = .ok (.iload_n 1, 1) := by decide +kernel
theorem dX8_fails_11 : decode cX8_fails 11 = .ok (.ifCond .le 7, 3) := by decide +kernel
theorem dX8_fails_14 : decode cX8_fails 14 = .ok (.iconst 1, 1) := by decide +kernel
theorem dX8_fails_15 : decode cX8_fails 15 = .ok (.goto 4, 3) := by decide +kernel
theorem dX8_fails_18 : decode cX8_fails 18 = .ok (.iconst 0, 1) := by decide +kernel
theorem dX8_fails_19 : decode cX8_fails 19 = .ok (.ireturn, 1) := by decide +kernel
theorem dX8_refuses_0 : decode cX8_refuses 0 = .ok (.aload_n 0, 1) := by decide +kernel
theorem dX8_refuses_1 : decode cX8_refuses 1 = .ok (.iload_n 1, 1) := by decide +kernel
theorem dX8_refuses_2 : decode cX8_refuses 2 = .ok (.putfield 40, 3) := by decide +kernel
theorem dX8_refuses_5 : decode cX8_refuses 5 = .ok (.aload_n 0, 1) := by decide +kernel
theorem dX8_refuses_6 : decode cX8_refuses 6 = .ok (.iconst 1, 1) := by decide +kernel
theorem dX8_refuses_7 : decode cX8_refuses 7 = .ok (.putfield 43, 3) := by decide +kernel
theorem dX8_refuses_10 : decode cX8_refuses 10 = .ok (.aload_n 0, 1) := by decide +kernel
theorem dX8_refuses_11 : decode cX8_refuses 11 = .ok (.iload_n 2, 1) := by decide +kernel
theorem dX8_refuses_12 : decode cX8_refuses 12 = .ok (.putfield 47, 3) := by decide +kernel
theorem dX8_refuses_15 : decode cX8_refuses 15 = .ok (.aload_n 0, 1) := by decide +kernel
theorem dX8_refuses_16 : decode cX8_refuses 16 = .ok (.iload_n 3, 1) := by decide +kernel
theorem dX8_refuses_17 : decode cX8_refuses 17 = .ok (.putfield 50, 3) := by decide +kernel
theorem dX8_refuses_20 : decode cX8_refuses 20 = .ok (.iconst 0, 1) := by decide +kernel
theorem dX8_refuses_21 : decode cX8_refuses 21 = .ok (.ireturn, 1) := by decide +kernel
theorem dX8_in_0 : decode cX8_in 0 = .ok (.iload_n 0, 1) := by decide +kernel
theorem dX8_in_1 : decode cX8_in 1 = .ok (.iload_n 1, 1) := by decide +kernel
theorem dX8_in_2 : decode cX8_in 2 = .ok (.if_icmp .lt 12, 3) := by decide +kernel
theorem dX8_in_5 : decode cX8_in 5 = .ok (.iload_n 0, 1) := by decide +kernel
theorem dX8_in_6 : decode cX8_in 6 = .ok (.iload_n 2, 1) := by decide +kernel
theorem dX8_in_7 : decode cX8_in 7 = .ok (.if_icmp .gt 7, 3) := by decide +kernel
theorem dX8_in_10 : decode cX8_in 10 = .ok (.iconst 1, 1) := by decide +kernel
theorem dX8_in_11 : decode cX8_in 11 = .ok (.goto 4, 3) := by decide +kernel
theorem dX8_in_14 : decode cX8_in 14 = .ok (.iconst 0, 1) := by decide +kernel
theorem dX8_in_15 : decode cX8_in 15 = .ok (.ireturn, 1) := by decide +kernel
theorem dX8_within_0 : decode cX8_within 0 = .ok (.iload_n 0, 1) := by decide +kernel
theorem dX8_within_1 : decode cX8_within 1 = .ok (.iload_n 1, 1) := by decide +kernel
theorem dX8_within_2 : decode cX8_within 2 = .ok (.if_icmp .ge 7, 3) := by decide +kernel
theorem dX8_within_5 : decode cX8_within 5 = .ok (.iload_n 1, 1) := by decide +kernel
theorem dX8_within_6 : decode cX8_within 6 = .ok (.goto 13, 3) := by decide +kernel
theorem dX8_within_9 : decode cX8_within 9 = .ok (.iload_n 0, 1) := by decide +kernel
theorem dX8_within_10 : decode cX8_within 10 = .ok (.iload_n 2, 1) := by decide +kernel
theorem dX8_within_11 : decode cX8_within 11 = .ok (.if_icmp .le 7, 3) := by decide +kernel
theorem dX8_within_14 : decode cX8_within 14 = .ok (.iload_n 2, 1) := by decide +kernel
theorem dX8_within_15 : decode cX8_within 15 = .ok (.goto 4, 3) := by decide +kernel
theorem dX8_within_18 : decode cX8_within 18 = .ok (.iload_n 0, 1) := by decide +kernel
theorem dX8_within_19 : decode cX8_within 19 = .ok (.ireturn, 1) := by decide +kernel
theorem dX8_copies_0 : decode cX8_copies 0 = .ok (.iconst 0, 1) := by decide +kernel
theorem dX8_copies_1 : decode cX8_copies 1 = .ok (.istore 4, 2) := by decide +kernel
theorem dX8_copies_3 : decode cX8_copies 3 = .ok (.iload 4, 2) := by decide +kernel
theorem dX8_copies_5 : decode cX8_copies 5 = .ok (.bipush 125, 2) := by decide +kernel
theorem dX8_copies_7 : decode cX8_copies 7 = .ok (.if_icmp .ge 21, 3) := by decide +kernel
theorem dX8_copies_10 : decode cX8_copies 10 = .ok (.aload_n 2, 1) := by decide +kernel
theorem dX8_copies_11 : decode cX8_copies 11 = .ok (.iload_n 3, 1) := by decide +kernel
theorem dX8_copies_12 : decode cX8_copies 12 = .ok (.iload 4, 2) := by decide +kernel
theorem dX8_copies_14 : decode cX8_copies 14 = .ok (.iadd, 1) := by decide +kernel
theorem dX8_copies_15 : decode cX8_copies 15 = .ok (.aload_n 0, 1) := by decide +kernel
theorem dX8_copies_16 : decode cX8_copies 16 = .ok (.iload_n 1, 1) := by decide +kernel
theorem dX8_copies_17 : decode cX8_copies 17 = .ok (.iload 4, 2) := by decide +kernel
theorem dX8_copies_19 : decode cX8_copies 19 = .ok (.iadd, 1) := by decide +kernel
theorem dX8_copies_20 : decode cX8_copies 20 = .ok (.iaload, 1) := by decide +kernel
theorem dX8_copies_21 : decode cX8_copies 21 = .ok (.iastore, 1) := by decide +kernel
theorem dX8_copies_22 : decode cX8_copies 22 = .ok (.iinc 4 1, 3) := by decide +kernel
theorem dX8_copies_25 : decode cX8_copies 25 = .ok (.goto (-22), 3) := by decide +kernel
theorem dX8_copies_28 : decode cX8_copies 28 = .ok (.return_, 1) := by decide +kernel
set_option maxRecDepth 20000 in
theorem ggX8_keeps_X8_copies : GoodIn wsX8_keeps wsX8_copies := goodIn_ca (goodIn_r _ [8] (by decide +kernel) (by decide +kernel)) (goodIn_sub (fun _ h => List.mem_cons_of_mem _ (List.mem_append_right _ h)) (by decide +kernel))
set_option maxRecDepth 20000 in
theorem gX8_keeps_X8_copies : GoodIn wsX8_keeps (va_wsS RX8 59 yX8_copies wsX8_copies) := goodIn_app (goodIn_of _ (by decide +kernel)) ggX8_keeps_X8_copies
theorem dX8_keeps_0 : decode cX8_keeps 0 = .ok (.aload_n 0, 1) := by decide +kernel
theorem dX8_keeps_1 : decode cX8_keeps 1 = .ok (.iconst 0, 1) := by decide +kernel
theorem dX8_keeps_2 : decode cX8_keeps 2 = .ok (.putfield 40, 3) := by decide +kernel
theorem dX8_keeps_5 : decode cX8_keeps 5 = .ok (.aload_n 0, 1) := by decide +kernel
theorem dX8_keeps_6 : decode cX8_keeps 6 = .ok (.getfield 53, 3) := by decide +kernel
theorem dX8_keeps_9 : decode cX8_keeps 9 = .ok (.ifCond .eq 4, 3) := by decide +kernel
theorem dX8_keeps_12 : decode cX8_keeps 12 = .ok (.return_, 1) := by decide +kernel
theorem dX8_keeps_13 : decode cX8_keeps 13 = .ok (.aload_n 0, 1) := by decide +kernel
theorem dX8_keeps_14 : decode cX8_keeps 14 = .ok (.getfield 56, 3) := by decide +kernel
theorem dX8_keeps_17 : decode cX8_keeps 17 = .ok (.bipush 8, 2) := by decide +kernel
theorem dX8_keeps_19 : decode cX8_keeps 19 = .ok (.if_icmp .ne 43, 3) := by decide +kernel
theorem dX8_keeps_22 : decode cX8_keeps 22 = .ok (.iconst 0, 1) := by decide +kernel
theorem dX8_keeps_23 : decode cX8_keeps 23 = .ok (.istore_n 2, 1) := by decide +kernel
theorem dX8_keeps_24 : decode cX8_keeps 24 = .ok (.iload_n 2, 1) := by decide +kernel
theorem dX8_keeps_25 : decode cX8_keeps 25 = .ok (.sipush 875, 3) := by decide +kernel
theorem dX8_keeps_28 : decode cX8_keeps 28 = .ok (.if_icmp .ge 24, 3) := by decide +kernel
theorem dX8_keeps_31 : decode cX8_keeps 31 = .ok (.aload_n 0, 1) := by decide +kernel
theorem dX8_keeps_32 : decode cX8_keeps 32 = .ok (.getfield 13, 3) := by decide +kernel
theorem dX8_keeps_35 : decode cX8_keeps 35 = .ok (.iload_n 2, 1) := by decide +kernel
theorem dX8_keeps_36 : decode cX8_keeps 36 = .ok (.aload_n 0, 1) := by decide +kernel
theorem dX8_keeps_37 : decode cX8_keeps 37 = .ok (.getfield 13, 3) := by decide +kernel
theorem dX8_keeps_40 : decode cX8_keeps 40 = .ok (.iload_n 2, 1) := by decide +kernel
theorem dX8_keeps_41 : decode cX8_keeps 41 = .ok (.bipush 125, 2) := by decide +kernel
theorem dX8_keeps_43 : decode cX8_keeps 43 = .ok (.iadd, 1) := by decide +kernel
theorem dX8_keeps_44 : decode cX8_keeps 44 = .ok (.iaload, 1) := by decide +kernel
theorem dX8_keeps_45 : decode cX8_keeps 45 = .ok (.iastore, 1) := by decide +kernel
theorem dX8_keeps_46 : decode cX8_keeps 46 = .ok (.iinc 2 1, 3) := by decide +kernel
theorem dX8_keeps_49 : decode cX8_keeps 49 = .ok (.goto (-25), 3) := by decide +kernel
theorem dX8_keeps_52 : decode cX8_keeps 52 = .ok (.aload_n 0, 1) := by decide +kernel
theorem dX8_keeps_53 : decode cX8_keeps 53 = .ok (.dup, 1) := by decide +kernel
theorem dX8_keeps_54 : decode cX8_keeps 54 = .ok (.getfield 56, 3) := by decide +kernel
theorem dX8_keeps_57 : decode cX8_keeps 57 = .ok (.iconst 1, 1) := by decide +kernel
theorem dX8_keeps_58 : decode cX8_keeps 58 = .ok (.isub, 1) := by decide +kernel
theorem dX8_keeps_59 : decode cX8_keeps 59 = .ok (.putfield 56, 3) := by decide +kernel
theorem dX8_keeps_62 : decode cX8_keeps 62 = .ok (.aload_n 1, 1) := by decide +kernel
theorem dX8_keeps_63 : decode cX8_keeps 63 = .ok (.iconst 0, 1) := by decide +kernel
theorem dX8_keeps_64 : decode cX8_keeps 64 = .ok (.aload_n 0, 1) := by decide +kernel
theorem dX8_keeps_65 : decode cX8_keeps 65 = .ok (.getfield 13, 3) := by decide +kernel
theorem dX8_keeps_68 : decode cX8_keeps 68 = .ok (.bipush 125, 2) := by decide +kernel
theorem dX8_keeps_70 : decode cX8_keeps 70 = .ok (.aload_n 0, 1) := by decide +kernel
theorem dX8_keeps_71 : decode cX8_keeps 71 = .ok (.getfield 56, 3) := by decide +kernel
theorem dX8_keeps_74 : decode cX8_keeps 74 = .ok (.imul, 1) := by decide +kernel
theorem dX8_keeps_75 : decode cX8_keeps 75 = .ok (.invokestatic 59, 3) := by decide +kernel
theorem dX8_keeps_78 : decode cX8_keeps 78 = .ok (.aload_n 0, 1) := by decide +kernel
theorem dX8_keeps_79 : decode cX8_keeps 79 = .ok (.dup, 1) := by decide +kernel
theorem dX8_keeps_80 : decode cX8_keeps 80 = .ok (.getfield 56, 3) := by decide +kernel
theorem dX8_keeps_83 : decode cX8_keeps 83 = .ok (.iconst 1, 1) := by decide +kernel
theorem dX8_keeps_84 : decode cX8_keeps 84 = .ok (.iadd, 1) := by decide +kernel
theorem dX8_keeps_85 : decode cX8_keeps 85 = .ok (.putfield 56, 3) := by decide +kernel
theorem dX8_keeps_88 : decode cX8_keeps 88 = .ok (.return_, 1) := by decide +kernel
theorem dX8_of_0 : decode cX8_of 0 = .ok (.aload_n 0, 1) := by decide +kernel
theorem dX8_of_1 : decode cX8_of 1 = .ok (.getfield 7, 3) := by decide +kernel
theorem dX8_of_4 : decode cX8_of 4 = .ok (.bipush 15, 2) := by decide +kernel
theorem dX8_of_6 : decode cX8_of 6 = .ok (.bipush 26, 2) := by decide +kernel
theorem dX8_of_8 : decode cX8_of 8 = .ok (.iload_n 1, 1) := by decide +kernel
theorem dX8_of_9 : decode cX8_of 9 = .ok (.imul, 1) := by decide +kernel
theorem dX8_of_10 : decode cX8_of 10 = .ok (.iadd, 1) := by decide +kernel
theorem dX8_of_11 : decode cX8_of 11 = .ok (.iload_n 2, 1) := by decide +kernel
theorem dX8_of_12 : decode cX8_of 12 = .ok (.iadd, 1) := by decide +kernel
theorem dX8_of_13 : decode cX8_of 13 = .ok (.iaload, 1) := by decide +kernel
theorem dX8_of_14 : decode cX8_of 14 = .ok (.ireturn, 1) := by decide +kernel
theorem dX8_lays_0 : decode cX8_lays 0 = .ok (.aload_n 0, 1) := by decide +kernel
theorem dX8_lays_1 : decode cX8_lays 1 = .ok (.getfield 7, 3) := by decide +kernel
theorem dX8_lays_4 : decode cX8_lays 4 = .ok (.bipush 15, 2) := by decide +kernel
theorem dX8_lays_6 : decode cX8_lays 6 = .ok (.bipush 26, 2) := by decide +kernel
theorem dX8_lays_8 : decode cX8_lays 8 = .ok (.iload_n 1, 1) := by decide +kernel
theorem dX8_lays_9 : decode cX8_lays 9 = .ok (.imul, 1) := by decide +kernel
theorem dX8_lays_10 : decode cX8_lays 10 = .ok (.iadd, 1) := by decide +kernel
theorem dX8_lays_11 : decode cX8_lays 11 = .ok (.iload_n 2, 1) := by decide +kernel
theorem dX8_lays_12 : decode cX8_lays 12 = .ok (.iadd, 1) := by decide +kernel
theorem dX8_lays_13 : decode cX8_lays 13 = .ok (.iload_n 3, 1) := by decide +kernel
theorem dX8_lays_14 : decode cX8_lays 14 = .ok (.iastore, 1) := by decide +kernel
theorem dX8_lays_15 : decode cX8_lays 15 = .ok (.return_, 1) := by decide +kernel
set_option maxRecDepth 20000 in
theorem ggX8_on_X8_of : GoodIn wsX8_on wsX8_of := goodIn_ca (goodIn_r _ [5, 6, 7, 8, 9, 10, 11, 12, 13, 14, 15, 16, 17, 18, 19, 20, 21, 22, 23, 24, 25] (by decide +kernel) (by decide +kernel)) (goodIn_sub (fun _ h => List.mem_cons_of_mem _ (List.mem_append_right _ h)) (by decide +kernel))
set_option maxRecDepth 20000 in
theorem gX8_on_X8_of : GoodIn wsX8_on (wsV RX8 63 RX8 yX8_of wsX8_of) := goodIn_app (goodIn_of _ (by decide +kernel)) ggX8_on_X8_of
theorem dX8_on_0 : decode cX8_on 0 = .ok (.aload_n 0, 1) := by decide +kernel
theorem dX8_on_1 : decode cX8_on 1 = .ok (.iload_n 1, 1) := by decide +kernel
theorem dX8_on_2 : decode cX8_on 2 = .ok (.bipush 6, 2) := by decide +kernel
theorem dX8_on_4 : decode cX8_on 4 = .ok (.iconst 4, 1) := by decide +kernel
theorem dX8_on_5 : decode cX8_on 5 = .ok (.iload_n 2, 1) := by decide +kernel
theorem dX8_on_6 : decode cX8_on 6 = .ok (.imul, 1) := by decide +kernel
theorem dX8_on_7 : decode cX8_on 7 = .ok (.iadd, 1) := by decide +kernel
theorem dX8_on_8 : decode cX8_on 8 = .ok (.iload_n 3, 1) := by decide +kernel
theorem dX8_on_9 : decode cX8_on 9 = .ok (.iadd, 1) := by decide +kernel
theorem dX8_on_10 : decode cX8_on 10 = .ok (.invokevirtual 63, 3) := by decide +kernel
theorem dX8_on_13 : decode cX8_on 13 = .ok (.ireturn, 1) := by decide +kernel
set_option maxRecDepth 20000 in
theorem ggX8_isBlank_X8_on : GoodIn wsX8_isBlank wsX8_on := goodIn_ca (goodIn_r _ [5, 6, 7, 8, 4, 9, 10, 11, 12, 13, 14, 15, 16, 17, 18, 19, 20, 21, 22, 23, 24, 25, 26, 27, 28, 29] (by decide +kernel) (by decide +kernel)) (goodIn_sub (fun _ h => List.mem_cons_of_mem _ (List.mem_append_right _ h)) (by decide +kernel))
set_option maxRecDepth 20000 in
theorem gX8_isBlank_X8_on : GoodIn wsX8_isBlank (wsV RX8 67 RX8 yX8_on wsX8_on) := goodIn_app (goodIn_of _ (by decide +kernel)) ggX8_isBlank_X8_on
theorem dX8_isBlank_0 : decode cX8_isBlank 0 = .ok (.aload_n 0, 1) := by decide +kernel
theorem dX8_isBlank_1 : decode cX8_isBlank 1 = .ok (.iload_n 1, 1) := by decide +kernel
theorem dX8_isBlank_2 : decode cX8_isBlank 2 = .ok (.iload_n 2, 1) := by decide +kernel
theorem dX8_isBlank_3 : decode cX8_isBlank 3 = .ok (.iconst 0, 1) := by decide +kernel
theorem dX8_isBlank_4 : decode cX8_isBlank 4 = .ok (.invokevirtual 67, 3) := by decide +kernel
theorem dX8_isBlank_7 : decode cX8_isBlank 7 = .ok (.iconst 1, 1) := by decide +kernel
theorem dX8_isBlank_8 : decode cX8_isBlank 8 = .ok (.if_icmp .ne 7, 3) := by decide +kernel
theorem dX8_isBlank_11 : decode cX8_isBlank 11 = .ok (.iconst 1, 1) := by decide +kernel
theorem dX8_isBlank_12 : decode cX8_isBlank 12 = .ok (.goto 4, 3) := by decide +kernel
theorem dX8_isBlank_15 : decode cX8_isBlank 15 = .ok (.iconst 0, 1) := by decide +kernel
theorem dX8_isBlank_16 : decode cX8_isBlank 16 = .ok (.ireturn, 1) := by decide +kernel
set_option maxRecDepth 20000 in
theorem ggX8_isBelt_X8_in : GoodIn wsX8_isBelt wsX8_in := goodIn_r _ [4] (by decide +kernel) (by decide +kernel)
set_option maxRecDepth 20000 in
theorem gX8_isBelt_X8_in : GoodIn wsX8_isBelt (va_wsS RX8 71 yX8_in wsX8_in) := goodIn_app (goodIn_of _ (by decide +kernel)) ggX8_isBelt_X8_in
theorem dX8_isBelt_0 : decode cX8_isBelt 0 = .ok (.iload_n 0, 1) := by decide +kernel
theorem dX8_isBelt_1 : decode cX8_isBelt 1 = .ok (.iconst 0, 1) := by decide +kernel
theorem dX8_isBelt_2 : decode cX8_isBelt 2 = .ok (.iconst 2, 1) := by decide +kernel
theorem dX8_isBelt_3 : decode cX8_isBelt 3 = .ok (.invokestatic 71, 3) := by decide +kernel
theorem dX8_isBelt_6 : decode cX8_isBelt 6 = .ok (.ireturn, 1) := by decide +kernel
set_option maxRecDepth 20000 in
theorem ggX8_isPlace_X8_isBelt : GoodIn wsX8_isPlace wsX8_isBelt := goodIn_r _ [4, 5, 6, 3, 7] (by decide +kernel) (by decide +kernel)
set_option maxRecDepth 20000 in
theorem gX8_isPlace_X8_isBelt : GoodIn wsX8_isPlace (va_wsS RX8 75 yX8_isBelt wsX8_isBelt) := goodIn_app (goodIn_of _ (by decide +kernel)) ggX8_isPlace_X8_isBelt
set_option maxRecDepth 20000 in
theorem ggX8_isPlace_X8_of : GoodIn wsX8_isPlace wsX8_of := goodIn_ca (goodIn_r _ [11, 12, 13, 14, 15, 16, 17, 18, 19, 20, 21, 22, 23, 24, 25, 26, 27, 28, 29, 30, 31] (by decide +kernel) (by decide +kernel)) (goodIn_sub (fun _ h => List.mem_cons_of_mem _ (List.mem_append_right _ h)) (by decide +kernel))
set_option maxRecDepth 20000 in
theorem gX8_isPlace_X8_of : GoodIn wsX8_isPlace (wsV RX8 63 RX8 yX8_of wsX8_of) := goodIn_app (goodIn_of _ (by decide +kernel)) ggX8_isPlace_X8_of
set_option maxRecDepth 20000 in
theorem ggX8_isPlace_X8_in : GoodIn wsX8_isPlace wsX8_in := goodIn_r _ [7] (by decide +kernel) (by decide +kernel)
set_option maxRecDepth 20000 in
theorem gX8_isPlace_X8_in : GoodIn wsX8_isPlace (va_wsS RX8 71 yX8_in wsX8_in) := goodIn_app (goodIn_of _ (by decide +kernel)) ggX8_isPlace_X8_in
theorem dX8_isPlace_0 : decode cX8_isPlace 0 = .ok (.iload_n 1, 1) := by decide +kernel
theorem dX8_isPlace_1 : decode cX8_isPlace 1 = .ok (.invokestatic 75, 3) := by decide +kernel
theorem dX8_isPlace_4 : decode cX8_isPlace 4 = .ok (.ifCond .eq 23, 3) := by decide +kernel
theorem dX8_isPlace_7 : decode cX8_isPlace 7 = .ok (.iload_n 2, 1) := by decide +kernel
theorem dX8_isPlace_8 : decode cX8_isPlace 8 = .ok (.iconst 0, 1) := by decide +kernel
theorem dX8_isPlace_9 : decode cX8_isPlace 9 = .ok (.aload_n 0, 1) := by decide +kernel
theorem dX8_isPlace_10 : decode cX8_isPlace 10 = .ok (.iload_n 1, 1) := by decide +kernel
theorem dX8_isPlace_11 : decode cX8_isPlace 11 = .ok (.iconst 0, 1) := by decide +kernel
theorem dX8_isPlace_12 : decode cX8_isPlace 12 = .ok (.invokevirtual 63, 3) := by decide +kernel
theorem dX8_isPlace_15 : decode cX8_isPlace 15 = .ok (.iconst 1, 1) := by decide +kernel
theorem dX8_isPlace_16 : decode cX8_isPlace 16 = .ok (.isub, 1) := by decide +kernel
theorem dX8_isPlace_17 : decode cX8_isPlace 17 = .ok (.invokestatic 71, 3) := by decide +kernel
theorem dX8_isPlace_20 : decode cX8_isPlace 20 = .ok (.ifCond .eq 7, 3) := by decide +kernel
theorem dX8_isPlace_23 : decode cX8_isPlace 23 = .ok (.iconst 1, 1) := by decide +kernel
theorem dX8_isPlace_24 : decode cX8_isPlace 24 = .ok (.goto 4, 3) := by decide +kernel
theorem dX8_isPlace_27 : decode cX8_isPlace 27 = .ok (.iconst 0, 1) := by decide +kernel
theorem dX8_isPlace_28 : decode cX8_isPlace 28 = .ok (.ireturn, 1) := by decide +kernel
set_option maxRecDepth 20000 in
theorem ggX8_puts_X8_of : GoodIn wsX8_puts wsX8_of := goodIn_ca (goodIn_r _ [5, 6, 11, 12, 13, 14, 15, 16, 17, 18, 19, 20, 21, 22, 23, 24, 25, 26, 27, 28, 29] (by decide +kernel) (by decide +kernel)) (goodIn_sub (fun _ h => List.mem_cons_of_mem _ (List.mem_append_right _ h)) (by decide +kernel))
set_option maxRecDepth 20000 in
theorem gX8_puts_X8_of : GoodIn wsX8_puts (wsV RX8 63 RX8 yX8_of wsX8_of) := goodIn_app (goodIn_of _ (by decide +kernel)) ggX8_puts_X8_of
set_option maxRecDepth 20000 in
theorem ggX8_puts_X8_lays : GoodIn wsX8_puts wsX8_lays := goodIn_ca (goodIn_r _ [10, 6, 11, 12, 13, 14, 15, 16, 17, 18, 19, 20, 21, 22, 23, 24, 25, 26, 27, 28, 29] (by decide +kernel) (by decide +kernel)) (goodIn_sub (fun _ h => List.mem_cons_of_mem _ (List.mem_append_right _ h)) (by decide +kernel))
set_option maxRecDepth 20000 in
theorem gX8_puts_X8_lays : GoodIn wsX8_puts (wsV RX8 36 RX8 yX8_lays wsX8_lays) := goodIn_app (goodIn_of _ (by decide +kernel)) ggX8_puts_X8_lays
theorem dX8_puts_0 : decode cX8_puts 0 = .ok (.bipush 6, 2) := by decide +kernel
theorem dX8_puts_2 : decode cX8_puts 2 = .ok (.iconst 4, 1) := by decide +kernel
theorem dX8_puts_3 : decode cX8_puts 3 = .ok (.aload_n 0, 1) := by decide +kernel
theorem dX8_puts_4 : decode cX8_puts 4 = .ok (.iload_n 1, 1) := by decide +kernel
theorem dX8_puts_5 : decode cX8_puts 5 = .ok (.iconst 0, 1) := by decide +kernel
theorem dX8_puts_6 : decode cX8_puts 6 = .ok (.invokevirtual 63, 3) := by decide +kernel
theorem dX8_puts_9 : decode cX8_puts 9 = .ok (.imul, 1) := by decide +kernel
theorem dX8_puts_10 : decode cX8_puts 10 = .ok (.iadd, 1) := by decide +kernel
theorem dX8_puts_11 : decode cX8_puts 11 = .ok (.istore 6, 2) := by decide +kernel
theorem dX8_puts_13 : decode cX8_puts 13 = .ok (.aload_n 0, 1) := by decide +kernel
theorem dX8_puts_14 : decode cX8_puts 14 = .ok (.iload_n 1, 1) := by decide +kernel
theorem dX8_puts_15 : decode cX8_puts 15 = .ok (.iload 6, 2) := by decide +kernel
theorem dX8_puts_17 : decode cX8_puts 17 = .ok (.iconst 0, 1) := by decide +kernel
theorem dX8_puts_18 : decode cX8_puts 18 = .ok (.iadd, 1) := by decide +kernel
theorem dX8_puts_19 : decode cX8_puts 19 = .ok (.iload_n 2, 1) := by decide +kernel
theorem dX8_puts_20 : decode cX8_puts 20 = .ok (.invokevirtual 36, 3) := by decide +kernel
theorem dX8_puts_23 : decode cX8_puts 23 = .ok (.aload_n 0, 1) := by decide +kernel
theorem dX8_puts_24 : decode cX8_puts 24 = .ok (.iload_n 1, 1) := by decide +kernel
theorem dX8_puts_25 : decode cX8_puts 25 = .ok (.iload 6, 2) := by decide +kernel
theorem dX8_puts_27 : decode cX8_puts 27 = .ok (.iconst 1, 1) := by decide +kernel
theorem dX8_puts_28 : decode cX8_puts 28 = .ok (.iadd, 1) := by decide +kernel
theorem dX8_puts_29 : decode cX8_puts 29 = .ok (.iload_n 3, 1) := by decide +kernel
theorem dX8_puts_30 : decode cX8_puts 30 = .ok (.invokevirtual 36, 3) := by decide +kernel
theorem dX8_puts_33 : decode cX8_puts 33 = .ok (.aload_n 0, 1) := by decide +kernel
theorem dX8_puts_34 : decode cX8_puts 34 = .ok (.iload_n 1, 1) := by decide +kernel
theorem dX8_puts_35 : decode cX8_puts 35 = .ok (.iload 6, 2) := by decide +kernel
theorem dX8_puts_37 : decode cX8_puts 37 = .ok (.iconst 2, 1) := by decide +kernel
theorem dX8_puts_38 : decode cX8_puts 38 = .ok (.iadd, 1) := by decide +kernel
theorem dX8_puts_39 : decode cX8_puts 39 = .ok (.iload 4, 2) := by decide +kernel
theorem dX8_puts_41 : decode cX8_puts 41 = .ok (.invokevirtual 36, 3) := by decide +kernel
theorem dX8_puts_44 : decode cX8_puts 44 = .ok (.aload_n 0, 1) := by decide +kernel
theorem dX8_puts_45 : decode cX8_puts 45 = .ok (.iload_n 1, 1) := by decide +kernel
theorem dX8_puts_46 : decode cX8_puts 46 = .ok (.iload 6, 2) := by decide +kernel
theorem dX8_puts_48 : decode cX8_puts 48 = .ok (.iconst 3, 1) := by decide +kernel
theorem dX8_puts_49 : decode cX8_puts 49 = .ok (.iadd, 1) := by decide +kernel
theorem dX8_puts_50 : decode cX8_puts 50 = .ok (.iload 5, 2) := by decide +kernel
theorem dX8_puts_52 : decode cX8_puts 52 = .ok (.invokevirtual 36, 3) := by decide +kernel
theorem dX8_puts_55 : decode cX8_puts 55 = .ok (.aload_n 0, 1) := by decide +kernel
theorem dX8_puts_56 : decode cX8_puts 56 = .ok (.iload_n 1, 1) := by decide +kernel
theorem dX8_puts_57 : decode cX8_puts 57 = .ok (.iconst 0, 1) := by decide +kernel
theorem dX8_puts_58 : decode cX8_puts 58 = .ok (.aload_n 0, 1) := by decide +kernel
theorem dX8_puts_59 : decode cX8_puts 59 = .ok (.iload_n 1, 1) := by decide +kernel
theorem dX8_puts_60 : decode cX8_puts 60 = .ok (.iconst 0, 1) := by decide +kernel
theorem dX8_puts_61 : decode cX8_puts 61 = .ok (.invokevirtual 63, 3) := by decide +kernel
theorem dX8_puts_64 : decode cX8_puts 64 = .ok (.iconst 1, 1) := by decide +kernel
theorem dX8_puts_65 : decode cX8_puts 65 = .ok (.iadd, 1) := by decide +kernel
theorem dX8_puts_66 : decode cX8_puts 66 = .ok (.invokevirtual 36, 3) := by decide +kernel
theorem dX8_puts_69 : decode cX8_puts 69 = .ok (.aload_n 0, 1) := by decide +kernel
theorem dX8_puts_70 : decode cX8_puts 70 = .ok (.iload_n 1, 1) := by decide +kernel
theorem dX8_puts_71 : decode cX8_puts 71 = .ok (.iconst 0, 1) := by decide +kernel
theorem dX8_puts_72 : decode cX8_puts 72 = .ok (.invokevirtual 63, 3) := by decide +kernel
theorem dX8_puts_75 : decode cX8_puts 75 = .ok (.ireturn, 1) := by decide +kernel
set_option maxRecDepth 20000 in
theorem ggX8_goes_X8_of : GoodIn wsX8_goes wsX8_of := goodIn_ca (goodIn_r _ [5, 6, 11, 12, 13, 14, 15, 16, 17, 18, 19, 20, 21, 22, 23, 24, 25, 26, 27, 28, 29] (by decide +kernel) (by decide +kernel)) (goodIn_sub (fun _ h => List.mem_cons_of_mem _ (List.mem_append_right _ h)) (by decide +kernel))
set_option maxRecDepth 20000 in
theorem gX8_goes_X8_of : GoodIn wsX8_goes (wsV RX8 63 RX8 yX8_of wsX8_of) := goodIn_app (goodIn_of _ (by decide +kernel)) ggX8_goes_X8_of
set_option maxRecDepth 20000 in
theorem ggX8_goes_X8_lays : GoodIn wsX8_goes wsX8_lays := goodIn_ca (goodIn_r _ [10, 6, 11, 12, 13, 14, 15, 16, 17, 18, 19, 20, 21, 22, 23, 24, 25, 26, 27, 28, 29] (by decide +kernel) (by decide +kernel)) (goodIn_sub (fun _ h => List.mem_cons_of_mem _ (List.mem_append_right _ h)) (by decide +kernel))
set_option maxRecDepth 20000 in
theorem gX8_goes_X8_lays : GoodIn wsX8_goes (wsV RX8 36 RX8 yX8_lays wsX8_lays) := goodIn_app (goodIn_of _ (by decide +kernel)) ggX8_goes_X8_lays
theorem dX8_goes_0 : decode cX8_goes 0 = .ok (.aload_n 0, 1) := by decide +kernel
theorem dX8_goes_1 : decode cX8_goes 1 = .ok (.iload_n 1, 1) := by decide +kernel
theorem dX8_goes_2 : decode cX8_goes 2 = .ok (.iconst 0, 1) := by decide +kernel
theorem dX8_goes_3 : decode cX8_goes 3 = .ok (.aload_n 0, 1) := by decide +kernel
theorem dX8_goes_4 : decode cX8_goes 4 = .ok (.iload_n 1, 1) := by decide +kernel
theorem dX8_goes_5 : decode cX8_goes 5 = .ok (.iconst 0, 1) := by decide +kernel
theorem dX8_goes_6 : decode cX8_goes 6 = .ok (.invokevirtual 63, 3) := by decide +kernel
theorem dX8_goes_9 : decode cX8_goes 9 = .ok (.iconst 1, 1) := by decide +kernel
theorem dX8_goes_10 : decode cX8_goes 10 = .ok (.isub, 1) := by decide +kernel
theorem dX8_goes_11 : decode cX8_goes 11 = .ok (.invokevirtual 36, 3) := by decide +kernel
theorem dX8_goes_14 : decode cX8_goes 14 = .ok (.bipush 6, 2) := by decide +kernel
theorem dX8_goes_16 : decode cX8_goes 16 = .ok (.istore_n 2, 1) := by decide +kernel
theorem dX8_goes_17 : decode cX8_goes 17 = .ok (.iload_n 2, 1) := by decide +kernel
theorem dX8_goes_18 : decode cX8_goes 18 = .ok (.bipush 6, 2) := by decide +kernel
theorem dX8_goes_20 : decode cX8_goes 20 = .ok (.iconst 4, 1) := by decide +kernel
theorem dX8_goes_21 : decode cX8_goes 21 = .ok (.aload_n 0, 1) := by decide +kernel
theorem dX8_goes_22 : decode cX8_goes 22 = .ok (.iload_n 1, 1) := by decide +kernel
theorem dX8_goes_23 : decode cX8_goes 23 = .ok (.iconst 0, 1) := by decide +kernel
theorem dX8_goes_24 : decode cX8_goes 24 = .ok (.invokevirtual 63, 3) := by decide +kernel
theorem dX8_goes_27 : decode cX8_goes 27 = .ok (.imul, 1) := by decide +kernel
theorem dX8_goes_28 : decode cX8_goes 28 = .ok (.iadd, 1) := by decide +kernel
theorem dX8_goes_29 : decode cX8_goes 29 = .ok (.if_icmp .ge 23, 3) := by decide +kernel
theorem dX8_goes_32 : decode cX8_goes 32 = .ok (.aload_n 0, 1) := by decide +kernel
theorem dX8_goes_33 : decode cX8_goes 33 = .ok (.iload_n 1, 1) := by decide +kernel
theorem dX8_goes_34 : decode cX8_goes 34 = .ok (.iload_n 2, 1) := by decide +kernel
theorem dX8_goes_35 : decode cX8_goes 35 = .ok (.aload_n 0, 1) := by decide +kernel
theorem dX8_goes_36 : decode cX8_goes 36 = .ok (.iload_n 1, 1) := by decide +kernel
theorem dX8_goes_37 : decode cX8_goes 37 = .ok (.iload_n 2, 1) := by decide +kernel
theorem dX8_goes_38 : decode cX8_goes 38 = .ok (.iconst 4, 1) := by decide +kernel
theorem dX8_goes_39 : decode cX8_goes 39 = .ok (.iadd, 1) := by decide +kernel
theorem dX8_goes_40 : decode cX8_goes 40 = .ok (.invokevirtual 63, 3) := by decide +kernel
theorem dX8_goes_43 : decode cX8_goes 43 = .ok (.invokevirtual 36, 3) := by decide +kernel
theorem dX8_goes_46 : decode cX8_goes 46 = .ok (.iinc 2 1, 3) := by decide +kernel
theorem dX8_goes_49 : decode cX8_goes 49 = .ok (.goto (-32), 3) := by decide +kernel
theorem dX8_goes_52 : decode cX8_goes 52 = .ok (.iconst 0, 1) := by decide +kernel
theorem dX8_goes_53 : decode cX8_goes 53 = .ok (.istore_n 2, 1) := by decide +kernel
theorem dX8_goes_54 : decode cX8_goes 54 = .ok (.iload_n 2, 1) := by decide +kernel
theorem dX8_goes_55 : decode cX8_goes 55 = .ok (.iconst 4, 1) := by decide +kernel
theorem dX8_goes_56 : decode cX8_goes 56 = .ok (.if_icmp .ge 28, 3) := by decide +kernel
theorem dX8_goes_59 : decode cX8_goes 59 = .ok (.aload_n 0, 1) := by decide +kernel
theorem dX8_goes_60 : decode cX8_goes 60 = .ok (.iload_n 1, 1) := by decide +kernel
theorem dX8_goes_61 : decode cX8_goes 61 = .ok (.bipush 6, 2) := by decide +kernel
theorem dX8_goes_63 : decode cX8_goes 63 = .ok (.iconst 4, 1) := by decide +kernel
theorem dX8_goes_64 : decode cX8_goes 64 = .ok (.aload_n 0, 1) := by decide +kernel
theorem dX8_goes_65 : decode cX8_goes 65 = .ok (.iload_n 1, 1) := by decide +kernel
theorem dX8_goes_66 : decode cX8_goes 66 = .ok (.iconst 0, 1) := by decide +kernel
theorem dX8_goes_67 : decode cX8_goes 67 = .ok (.invokevirtual 63, 3) := by decide +kernel
theorem dX8_goes_70 : decode cX8_goes 70 = .ok (.imul, 1) := by decide +kernel
theorem dX8_goes_71 : decode cX8_goes 71 = .ok (.iadd, 1) := by decide +kernel
theorem dX8_goes_72 : decode cX8_goes 72 = .ok (.iload_n 2, 1) := by decide +kernel
theorem dX8_goes_73 : decode cX8_goes 73 = .ok (.iadd, 1) := by decide +kernel
theorem dX8_goes_74 : decode cX8_goes 74 = .ok (.iconst 0, 1) := by decide +kernel
theorem dX8_goes_75 : decode cX8_goes 75 = .ok (.invokevirtual 36, 3) := by decide +kernel
theorem dX8_goes_78 : decode cX8_goes 78 = .ok (.iinc 2 1, 3) := by decide +kernel
theorem dX8_goes_81 : decode cX8_goes 81 = .ok (.goto (-27), 3) := by decide +kernel
theorem dX8_goes_84 : decode cX8_goes 84 = .ok (.return_, 1) := by decide +kernel
set_option maxRecDepth 20000 in
theorem ggX8_make_X8_isBelt : GoodIn wsX8_make wsX8_isBelt := goodIn_r _ [5, 6, 7, 4, 8] (by decide +kernel) (by decide +kernel)
set_option maxRecDepth 20000 in
theorem gX8_make_X8_isBelt : GoodIn wsX8_make (va_wsS RX8 75 yX8_isBelt wsX8_isBelt) := goodIn_app (goodIn_of _ (by decide +kernel)) ggX8_make_X8_isBelt
set_option maxRecDepth 20000 in
theorem ggX8_make_X8_in : GoodIn wsX8_make wsX8_in := goodIn_r _ [8] (by decide +kernel) (by decide +kernel)
set_option maxRecDepth 20000 in
theorem gX8_make_X8_in : GoodIn wsX8_make (va_wsS RX8 71 yX8_in wsX8_in) := goodIn_app (goodIn_of _ (by decide +kernel)) ggX8_make_X8_in
set_option maxRecDepth 20000 in
theorem ggX8_make_X8_fails : GoodIn wsX8_make wsX8_fails := goodIn_r _ [12, 13, 14, 43, 44, 45, 46, 47, 48, 49, 50, 51, 52, 53, 54, 55, 56, 57, 58, 59, 60, 61] (by decide +kernel) (by decide +kernel)
set_option maxRecDepth 20000 in
theorem gX8_make_X8_fails : GoodIn wsX8_make (wsV RX8 79 RX8 yX8_fails wsX8_fails) := goodIn_app (goodIn_of _ (by decide +kernel)) ggX8_make_X8_fails
set_option maxRecDepth 20000 in
theorem ggX8_make_X8_of : GoodIn wsX8_make wsX8_of := goodIn_ca (goodIn_r _ [18, 1, 43, 44, 45, 46, 47, 48, 49, 50, 51, 52, 53, 54, 55, 56, 57, 58, 59, 60, 61] (by decide +kernel) (by decide +kernel)) (goodIn_sub (fun _ h => List.mem_cons_of_mem _ (List.mem_append_right _ h)) (by decide +kernel))
set_option maxRecDepth 20000 in
theorem gX8_make_X8_of : GoodIn wsX8_make (wsV RX8 63 RX8 yX8_of wsX8_of) := goodIn_app (goodIn_of _ (by decide +kernel)) ggX8_make_X8_of
set_option maxRecDepth 20000 in
theorem ggX8_make_X8_refuses : GoodIn wsX8_make wsX8_refuses := goodIn_r _ [22, 13, 14, 23, 24, 43, 44, 45, 46, 47, 48, 49, 50, 51, 52, 53, 54, 55, 56, 57, 58, 59, 60, 61] (by decide +kernel) (by decide +kernel)
set_option maxRecDepth 20000 in
theorem gX8_make_X8_refuses : GoodIn wsX8_make (wsV RX8 82 RX8 yX8_refuses wsX8_refuses) := goodIn_app (goodIn_of _ (by decide +kernel)) ggX8_make_X8_refuses
set_option maxRecDepth 20000 in
theorem ggX8_make_X8_keeps : GoodIn wsX8_make wsX8_keeps := goodIn_ca (goodIn_r _ [28, 13, 29, 30, 31, 32, 33, 4, 34, 43, 44, 45, 46, 47, 48, 49, 50, 51, 52, 53, 54, 55, 56, 57, 58, 59, 60, 61] (by decide +kernel) (by decide +kernel)) (goodIn_sub (fun _ h => List.mem_cons_of_mem _ (List.mem_append_right _ h)) (by decide +kernel))
set_option maxRecDepth 20000 in
theorem gX8_make_X8_keeps : GoodIn wsX8_make (wsV RX8 85 RX8 yX8_keeps wsX8_keeps) := goodIn_app (goodIn_of _ (by decide +kernel)) ggX8_make_X8_keeps
set_option maxRecDepth 20000 in
theorem ggX8_make_X8_puts : GoodIn wsX8_make wsX8_puts := goodIn_ca (goodIn_r _ [38, 15, 16, 17, 4, 18, 1, 39, 40, 41, 42, 43, 44, 45, 46, 47, 48, 49, 50, 51, 52, 53, 54, 55, 56, 57, 58, 59, 60, 61] (by decide +kernel) (by decide +kernel)) (goodIn_sub (fun _ h => List.mem_cons_of_mem _ (List.mem_append_right _ h)) (by decide +kernel))
set_option maxRecDepth 20000 in
theorem gX8_make_X8_puts : GoodIn wsX8_make (wsV RX8 89 RX8 yX8_puts wsX8_puts) := goodIn_app (goodIn_of _ (by decide +kernel)) ggX8_make_X8_puts
theorem dX8_make_0 : decode cX8_make 0 = .ok (.aload_n 0, 1) := by decide +kernel
theorem dX8_make_1 : decode cX8_make 1 = .ok (.iload_n 1, 1) := by decide +kernel
theorem dX8_make_2 : decode cX8_make 2 = .ok (.invokestatic 75, 3) := by decide +kernel
theorem dX8_make_5 : decode cX8_make 5 = .ok (.ifCond .ne 7, 3) := by decide +kernel
theorem dX8_make_8 : decode cX8_make 8 = .ok (.iconst 1, 1) := by decide +kernel
theorem dX8_make_9 : decode cX8_make 9 = .ok (.goto 28, 3) := by decide +kernel
theorem dX8_make_12 : decode cX8_make 12 = .ok (.iload_n 2, 1) := by decide +kernel
theorem dX8_make_13 : decode cX8_make 13 = .ok (.iconst 0, 1) := by decide +kernel
theorem dX8_make_14 : decode cX8_make 14 = .ok (.bipush 9, 2) := by decide +kernel
theorem dX8_make_16 : decode cX8_make 16 = .ok (.invokestatic 71, 3) := by decide +kernel
theorem dX8_make_19 : decode cX8_make 19 = .ok (.ifCond .eq 17, 3) := by decide +kernel
theorem dX8_make_22 : decode cX8_make 22 = .ok (.iload_n 3, 1) := by decide +kernel
theorem dX8_make_23 : decode cX8_make 23 = .ok (.iconst 4, 1) := by decide +kernel
theorem dX8_make_24 : decode cX8_make 24 = .ok (.bipush 9, 2) := by decide +kernel
theorem dX8_make_26 : decode cX8_make 26 = .ok (.invokestatic 71, 3) := by decide +kernel
theorem dX8_make_29 : decode cX8_make 29 = .ok (.ifCond .eq 7, 3) := by decide +kernel
theorem dX8_make_32 : decode cX8_make 32 = .ok (.iconst 0, 1) := by decide +kernel
theorem dX8_make_33 : decode cX8_make 33 = .ok (.goto 4, 3) := by decide +kernel
theorem dX8_make_36 : decode cX8_make 36 = .ok (.iconst 2, 1) := by decide +kernel
theorem dX8_make_37 : decode cX8_make 37 = .ok (.invokevirtual 79, 3) := by decide +kernel
theorem dX8_make_40 : decode cX8_make 40 = .ok (.ifCond .eq 5, 3) := by decide +kernel
theorem dX8_make_43 : decode cX8_make 43 = .ok (.iconst 0, 1) := by decide +kernel
theorem dX8_make_44 : decode cX8_make 44 = .ok (.ireturn, 1) := by decide +kernel
theorem dX8_make_45 : decode cX8_make 45 = .ok (.aload_n 0, 1) := by decide +kernel
theorem dX8_make_46 : decode cX8_make 46 = .ok (.iload_n 1, 1) := by decide +kernel
theorem dX8_make_47 : decode cX8_make 47 = .ok (.iconst 0, 1) := by decide +kernel
theorem dX8_make_48 : decode cX8_make 48 = .ok (.invokevirtual 63, 3) := by decide +kernel
theorem dX8_make_51 : decode cX8_make 51 = .ok (.iconst 5, 1) := by decide +kernel
theorem dX8_make_52 : decode cX8_make 52 = .ok (.if_icmp .ne 11, 3) := by decide +kernel
theorem dX8_make_55 : decode cX8_make 55 = .ok (.aload_n 0, 1) := by decide +kernel
theorem dX8_make_56 : decode cX8_make 56 = .ok (.iconst 3, 1) := by decide +kernel
theorem dX8_make_57 : decode cX8_make 57 = .ok (.iconst 1, 1) := by decide +kernel
theorem dX8_make_58 : decode cX8_make 58 = .ok (.iconst 5, 1) := by decide +kernel
theorem dX8_make_59 : decode cX8_make 59 = .ok (.invokevirtual 82, 3) := by decide +kernel
theorem dX8_make_62 : decode cX8_make 62 = .ok (.ireturn, 1) := by decide +kernel
theorem dX8_make_63 : decode cX8_make 63 = .ok (.aload_n 0, 1) := by decide +kernel
theorem dX8_make_64 : decode cX8_make 64 = .ok (.aload_n 0, 1) := by decide +kernel
theorem dX8_make_65 : decode cX8_make 65 = .ok (.getfield 7, 3) := by decide +kernel
theorem dX8_make_68 : decode cX8_make 68 = .ok (.invokevirtual 85, 3) := by decide +kernel
theorem dX8_make_71 : decode cX8_make 71 = .ok (.aload_n 0, 1) := by decide +kernel
theorem dX8_make_72 : decode cX8_make 72 = .ok (.getfield 7, 3) := by decide +kernel
theorem dX8_make_75 : decode cX8_make 75 = .ok (.iconst 2, 1) := by decide +kernel
theorem dX8_make_76 : decode cX8_make 76 = .ok (.dup2, 1) := by decide +kernel
theorem dX8_make_77 : decode cX8_make 77 = .ok (.iaload, 1) := by decide +kernel
theorem dX8_make_78 : decode cX8_make 78 = .ok (.iconst 1, 1) := by decide +kernel
theorem dX8_make_79 : decode cX8_make 79 = .ok (.iadd, 1) := by decide +kernel
theorem dX8_make_80 : decode cX8_make 80 = .ok (.iastore, 1) := by decide +kernel
theorem dX8_make_81 : decode cX8_make 81 = .ok (.aload_n 0, 1) := by decide +kernel
theorem dX8_make_82 : decode cX8_make 82 = .ok (.iload_n 1, 1) := by decide +kernel
theorem dX8_make_83 : decode cX8_make 83 = .ok (.iconst 0, 1) := by decide +kernel
theorem dX8_make_84 : decode cX8_make 84 = .ok (.iload_n 2, 1) := by decide +kernel
theorem dX8_make_85 : decode cX8_make 85 = .ok (.iload_n 3, 1) := by decide +kernel
theorem dX8_make_86 : decode cX8_make 86 = .ok (.iconst 0, 1) := by decide +kernel
theorem dX8_make_87 : decode cX8_make 87 = .ok (.invokevirtual 89, 3) := by decide +kernel
theorem dX8_make_90 : decode cX8_make 90 = .ok (.ireturn, 1) := by decide +kernel
set_option maxRecDepth 20000 in
theorem ggX8_blank_X8_isBelt : GoodIn wsX8_blank wsX8_isBelt := goodIn_r _ [5, 6, 7, 4, 8] (by decide +kernel) (by decide +kernel)
set_option maxRecDepth 20000 in
theorem gX8_blank_X8_isBelt : GoodIn wsX8_blank (va_wsS RX8 75 yX8_isBelt wsX8_isBelt) := goodIn_app (goodIn_of _ (by decide +kernel)) ggX8_blank_X8_isBelt
set_option maxRecDepth 20000 in
theorem ggX8_blank_X8_fails : GoodIn wsX8_blank wsX8_fails := goodIn_r _ [12, 13, 14, 43, 44, 45, 46, 47, 48, 49, 50, 51, 52, 53, 54, 55, 56, 57, 58, 59, 60, 61] (by decide +kernel) (by decide +kernel)
set_option maxRecDepth 20000 in
theorem gX8_blank_X8_fails : GoodIn wsX8_blank (wsV RX8 79 RX8 yX8_fails wsX8_fails) := goodIn_app (goodIn_of _ (by decide +kernel)) ggX8_blank_X8_fails
set_option maxRecDepth 20000 in
theorem ggX8_blank_X8_of : GoodIn wsX8_blank wsX8_of := goodIn_ca (goodIn_r _ [18, 1, 43, 44, 45, 46, 47, 48, 49, 50, 51, 52, 53, 54, 55, 56, 57, 58, 59, 60, 61] (by decide +kernel) (by decide +kernel)) (goodIn_sub (fun _ h => List.mem_cons_of_mem _ (List.mem_append_right _ h)) (by decide +kernel))
set_option maxRecDepth 20000 in
theorem gX8_blank_X8_of : GoodIn wsX8_blank (wsV RX8 63 RX8 yX8_of wsX8_of) := goodIn_app (goodIn_of _ (by decide +kernel)) ggX8_blank_X8_of
set_option maxRecDepth 20000 in
theorem ggX8_blank_X8_refuses : GoodIn wsX8_blank wsX8_refuses := goodIn_r _ [22, 13, 14, 23, 24, 43, 44, 45, 46, 47, 48, 49, 50, 51, 52, 53, 54, 55, 56, 57, 58, 59, 60, 61] (by decide +kernel) (by decide +kernel)
set_option maxRecDepth 20000 in
theorem gX8_blank_X8_refuses : GoodIn wsX8_blank (wsV RX8 82 RX8 yX8_refuses wsX8_refuses) := goodIn_app (goodIn_of _ (by decide +kernel)) ggX8_blank_X8_refuses
set_option maxRecDepth 20000 in
theorem ggX8_blank_X8_keeps : GoodIn wsX8_blank wsX8_keeps := goodIn_ca (goodIn_r _ [28, 13, 29, 30, 31, 32, 33, 4, 34, 43, 44, 45, 46, 47, 48, 49, 50, 51, 52, 53, 54, 55, 56, 57, 58, 59, 60, 61] (by decide +kernel) (by decide +kernel)) (goodIn_sub (fun _ h => List.mem_cons_of_mem _ (List.mem_append_right _ h)) (by decide +kernel))
set_option maxRecDepth 20000 in
theorem gX8_blank_X8_keeps : GoodIn wsX8_blank (wsV RX8 85 RX8 yX8_keeps wsX8_keeps) := goodIn_app (goodIn_of _ (by decide +kernel)) ggX8_blank_X8_keeps
set_option maxRecDepth 20000 in
theorem ggX8_blank_X8_puts : GoodIn wsX8_blank wsX8_puts := goodIn_ca (goodIn_r _ [38, 15, 16, 17, 4, 18, 1, 39, 40, 41, 42, 43, 44, 45, 46, 47, 48, 49, 50, 51, 52, 53, 54, 55, 56, 57, 58, 59, 60, 61] (by decide +kernel) (by decide +kernel)) (goodIn_sub (fun _ h => List.mem_cons_of_mem _ (List.mem_append_right _ h)) (by decide +kernel))
set_option maxRecDepth 20000 in
theorem gX8_blank_X8_puts : GoodIn wsX8_blank (wsV RX8 89 RX8 yX8_puts wsX8_puts) := goodIn_app (goodIn_of _ (by decide +kernel)) ggX8_blank_X8_puts
theorem dX8_blank_0 : decode cX8_blank 0 = .ok (.aload_n 0, 1) := by decide +kernel
theorem dX8_blank_1 : decode cX8_blank 1 = .ok (.iload_n 1, 1) := by decide +kernel
theorem dX8_blank_2 : decode cX8_blank 2 = .ok (.invokestatic 75, 3) := by decide +kernel
theorem dX8_blank_5 : decode cX8_blank 5 = .ok (.ifCond .eq 7, 3) := by decide +kernel
theorem dX8_blank_8 : decode cX8_blank 8 = .ok (.iconst 0, 1) := by decide +kernel
theorem dX8_blank_9 : decode cX8_blank 9 = .ok (.goto 4, 3) := by decide +kernel
theorem dX8_blank_12 : decode cX8_blank 12 = .ok (.iconst 1, 1) := by decide +kernel
theorem dX8_blank_13 : decode cX8_blank 13 = .ok (.invokevirtual 79, 3) := by decide +kernel
theorem dX8_blank_16 : decode cX8_blank 16 = .ok (.ifCond .eq 5, 3) := by decide +kernel
theorem dX8_blank_19 : decode cX8_blank 19 = .ok (.iconst 0, 1) := by decide +kernel
theorem dX8_blank_20 : decode cX8_blank 20 = .ok (.ireturn, 1) := by decide +kernel
theorem dX8_blank_21 : decode cX8_blank 21 = .ok (.aload_n 0, 1) := by decide +kernel
theorem dX8_blank_22 : decode cX8_blank 22 = .ok (.iload_n 1, 1) := by decide +kernel
theorem dX8_blank_23 : decode cX8_blank 23 = .ok (.iconst 0, 1) := by decide +kernel
theorem dX8_blank_24 : decode cX8_blank 24 = .ok (.invokevirtual 63, 3) := by decide +kernel
theorem dX8_blank_27 : decode cX8_blank 27 = .ok (.iconst 5, 1) := by decide +kernel
theorem dX8_blank_28 : decode cX8_blank 28 = .ok (.if_icmp .ne 11, 3) := by decide +kernel
theorem dX8_blank_31 : decode cX8_blank 31 = .ok (.aload_n 0, 1) := by decide +kernel
theorem dX8_blank_32 : decode cX8_blank 32 = .ok (.iconst 2, 1) := by decide +kernel
theorem dX8_blank_33 : decode cX8_blank 33 = .ok (.iconst 1, 1) := by decide +kernel
theorem dX8_blank_34 : decode cX8_blank 34 = .ok (.iconst 5, 1) := by decide +kernel
theorem dX8_blank_35 : decode cX8_blank 35 = .ok (.invokevirtual 82, 3) := by decide +kernel
theorem dX8_blank_38 : decode cX8_blank 38 = .ok (.ireturn, 1) := by decide +kernel
theorem dX8_blank_39 : decode cX8_blank 39 = .ok (.aload_n 0, 1) := by decide +kernel
theorem dX8_blank_40 : decode cX8_blank 40 = .ok (.aload_n 0, 1) := by decide +kernel
theorem dX8_blank_41 : decode cX8_blank 41 = .ok (.getfield 7, 3) := by decide +kernel
theorem dX8_blank_44 : decode cX8_blank 44 = .ok (.invokevirtual 85, 3) := by decide +kernel
theorem dX8_blank_47 : decode cX8_blank 47 = .ok (.aload_n 0, 1) := by decide +kernel
theorem dX8_blank_48 : decode cX8_blank 48 = .ok (.iload_n 1, 1) := by decide +kernel
theorem dX8_blank_49 : decode cX8_blank 49 = .ok (.iconst 1, 1) := by decide +kernel
theorem dX8_blank_50 : decode cX8_blank 50 = .ok (.iconst (-1), 1) := by decide +kernel
theorem dX8_blank_51 : decode cX8_blank 51 = .ok (.iconst (-1), 1) := by decide +kernel
theorem dX8_blank_52 : decode cX8_blank 52 = .ok (.iconst (-1), 1) := by decide +kernel
theorem dX8_blank_53 : decode cX8_blank 53 = .ok (.invokevirtual 89, 3) := by decide +kernel
theorem dX8_blank_56 : decode cX8_blank 56 = .ok (.ireturn, 1) := by decide +kernel
set_option maxRecDepth 20000 in
theorem ggX8_tell_X8_isBelt : GoodIn wsX8_tell wsX8_isBelt := goodIn_r _ [5, 6, 7, 4, 8] (by decide +kernel) (by decide +kernel)
set_option maxRecDepth 20000 in
theorem gX8_tell_X8_isBelt : GoodIn wsX8_tell (va_wsS RX8 75 yX8_isBelt wsX8_isBelt) := goodIn_app (goodIn_of _ (by decide +kernel)) ggX8_tell_X8_isBelt
set_option maxRecDepth 20000 in
theorem ggX8_tell_X8_in : GoodIn wsX8_tell wsX8_in := goodIn_r _ [8] (by decide +kernel) (by decide +kernel)
set_option maxRecDepth 20000 in
theorem gX8_tell_X8_in : GoodIn wsX8_tell (va_wsS RX8 71 yX8_in wsX8_in) := goodIn_app (goodIn_of _ (by decide +kernel)) ggX8_tell_X8_in
set_option maxRecDepth 20000 in
theorem ggX8_tell_X8_fails : GoodIn wsX8_tell wsX8_fails := goodIn_r _ [12, 13, 14, 39, 40, 41, 42, 43, 44, 45, 46, 47, 48, 49, 50, 51, 52, 53, 54, 55, 56, 57] (by decide +kernel) (by decide +kernel)
set_option maxRecDepth 20000 in
theorem gX8_tell_X8_fails : GoodIn wsX8_tell (wsV RX8 79 RX8 yX8_fails wsX8_fails) := goodIn_app (goodIn_of _ (by decide +kernel)) ggX8_tell_X8_fails
set_option maxRecDepth 20000 in
theorem ggX8_tell_X8_of : GoodIn wsX8_tell wsX8_of := goodIn_ca (goodIn_r _ [18, 1, 39, 40, 41, 42, 43, 44, 45, 46, 47, 48, 49, 50, 51, 52, 53, 54, 55, 56, 57] (by decide +kernel) (by decide +kernel)) (goodIn_sub (fun _ h => List.mem_cons_of_mem _ (List.mem_append_right _ h)) (by decide +kernel))
set_option maxRecDepth 20000 in
theorem gX8_tell_X8_of : GoodIn wsX8_tell (wsV RX8 63 RX8 yX8_of wsX8_of) := goodIn_app (goodIn_of _ (by decide +kernel)) ggX8_tell_X8_of
set_option maxRecDepth 20000 in
theorem ggX8_tell_X8_refuses : GoodIn wsX8_tell wsX8_refuses := goodIn_r _ [22, 13, 14, 23, 24, 39, 40, 41, 42, 43, 44, 45, 46, 47, 48, 49, 50, 51, 52, 53, 54, 55, 56, 57] (by decide +kernel) (by decide +kernel)
set_option maxRecDepth 20000 in
theorem gX8_tell_X8_refuses : GoodIn wsX8_tell (wsV RX8 82 RX8 yX8_refuses wsX8_refuses) := goodIn_app (goodIn_of _ (by decide +kernel)) ggX8_tell_X8_refuses
set_option maxRecDepth 20000 in
theorem ggX8_tell_X8_keeps : GoodIn wsX8_tell wsX8_keeps := goodIn_ca (goodIn_r _ [28, 13, 29, 30, 31, 32, 33, 4, 34, 39, 40, 41, 42, 43, 44, 45, 46, 47, 48, 49, 50, 51, 52, 53, 54, 55, 56, 57] (by decide +kernel) (by decide +kernel)) (goodIn_sub (fun _ h => List.mem_cons_of_mem _ (List.mem_append_right _ h)) (by decide +kernel))
set_option maxRecDepth 20000 in
theorem gX8_tell_X8_keeps : GoodIn wsX8_tell (wsV RX8 85 RX8 yX8_keeps wsX8_keeps) := goodIn_app (goodIn_of _ (by decide +kernel)) ggX8_tell_X8_keeps
set_option maxRecDepth 20000 in
theorem ggX8_tell_X8_lays : GoodIn wsX8_tell wsX8_lays := goodIn_ca (goodIn_r _ [38, 1, 39, 40, 41, 42, 43, 44, 45, 46, 47, 48, 49, 50, 51, 52, 53, 54, 55, 56, 57] (by decide +kernel) (by decide +kernel)) (goodIn_sub (fun _ h => List.mem_cons_of_mem _ (List.mem_append_right _ h)) (by decide +kernel))
set_option maxRecDepth 20000 in
theorem gX8_tell_X8_lays : GoodIn wsX8_tell (wsV RX8 36 RX8 yX8_lays wsX8_lays) := goodIn_app (goodIn_of _ (by decide +kernel)) ggX8_tell_X8_lays
theorem dX8_tell_0 : decode cX8_tell 0 = .ok (.aload_n 0, 1) := by decide +kernel
theorem dX8_tell_1 : decode cX8_tell 1 = .ok (.iload_n 1, 1) := by decide +kernel
theorem dX8_tell_2 : decode cX8_tell 2 = .ok (.invokestatic 75, 3) := by decide +kernel
theorem dX8_tell_5 : decode cX8_tell 5 = .ok (.ifCond .ne 7, 3) := by decide +kernel
theorem dX8_tell_8 : decode cX8_tell 8 = .ok (.iconst 1, 1) := by decide +kernel
theorem dX8_tell_9 : decode cX8_tell 9 = .ok (.goto 28, 3) := by decide +kernel
theorem dX8_tell_12 : decode cX8_tell 12 = .ok (.iload_n 2, 1) := by decide +kernel
theorem dX8_tell_13 : decode cX8_tell 13 = .ok (.iconst 0, 1) := by decide +kernel
theorem dX8_tell_14 : decode cX8_tell 14 = .ok (.bipush 9, 2) := by decide +kernel
theorem dX8_tell_16 : decode cX8_tell 16 = .ok (.invokestatic 71, 3) := by decide +kernel
theorem dX8_tell_19 : decode cX8_tell 19 = .ok (.ifCond .eq 17, 3) := by decide +kernel
theorem dX8_tell_22 : decode cX8_tell 22 = .ok (.iload_n 3, 1) := by decide +kernel
theorem dX8_tell_23 : decode cX8_tell 23 = .ok (.iconst 4, 1) := by decide +kernel
theorem dX8_tell_24 : decode cX8_tell 24 = .ok (.bipush 9, 2) := by decide +kernel
theorem dX8_tell_26 : decode cX8_tell 26 = .ok (.invokestatic 71, 3) := by decide +kernel
theorem dX8_tell_29 : decode cX8_tell 29 = .ok (.ifCond .eq 7, 3) := by decide +kernel
theorem dX8_tell_32 : decode cX8_tell 32 = .ok (.iconst 0, 1) := by decide +kernel
theorem dX8_tell_33 : decode cX8_tell 33 = .ok (.goto 4, 3) := by decide +kernel
theorem dX8_tell_36 : decode cX8_tell 36 = .ok (.iconst 2, 1) := by decide +kernel
theorem dX8_tell_37 : decode cX8_tell 37 = .ok (.invokevirtual 79, 3) := by decide +kernel
theorem dX8_tell_40 : decode cX8_tell 40 = .ok (.ifCond .eq 5, 3) := by decide +kernel
theorem dX8_tell_43 : decode cX8_tell 43 = .ok (.iconst 0, 1) := by decide +kernel
theorem dX8_tell_44 : decode cX8_tell 44 = .ok (.ireturn, 1) := by decide +kernel
theorem dX8_tell_45 : decode cX8_tell 45 = .ok (.aload_n 0, 1) := by decide +kernel
theorem dX8_tell_46 : decode cX8_tell 46 = .ok (.iload_n 1, 1) := by decide +kernel
theorem dX8_tell_47 : decode cX8_tell 47 = .ok (.iconst 1, 1) := by decide +kernel
theorem dX8_tell_48 : decode cX8_tell 48 = .ok (.invokevirtual 63, 3) := by decide +kernel
theorem dX8_tell_51 : decode cX8_tell 51 = .ok (.istore 4, 2) := by decide +kernel
theorem dX8_tell_53 : decode cX8_tell 53 = .ok (.iload 4, 2) := by decide +kernel
theorem dX8_tell_55 : decode cX8_tell 55 = .ok (.iload_n 2, 1) := by decide +kernel
theorem dX8_tell_56 : decode cX8_tell 56 = .ok (.if_icmp .ne 21, 3) := by decide +kernel
theorem dX8_tell_59 : decode cX8_tell 59 = .ok (.aload_n 0, 1) := by decide +kernel
theorem dX8_tell_60 : decode cX8_tell 60 = .ok (.iload_n 1, 1) := by decide +kernel
theorem dX8_tell_61 : decode cX8_tell 61 = .ok (.iconst 2, 1) := by decide +kernel
theorem dX8_tell_62 : decode cX8_tell 62 = .ok (.invokevirtual 63, 3) := by decide +kernel
theorem dX8_tell_65 : decode cX8_tell 65 = .ok (.iload_n 3, 1) := by decide +kernel
theorem dX8_tell_66 : decode cX8_tell 66 = .ok (.if_icmp .ne 11, 3) := by decide +kernel
theorem dX8_tell_69 : decode cX8_tell 69 = .ok (.aload_n 0, 1) := by decide +kernel
theorem dX8_tell_70 : decode cX8_tell 70 = .ok (.iconst 3, 1) := by decide +kernel
theorem dX8_tell_71 : decode cX8_tell 71 = .ok (.iconst 2, 1) := by decide +kernel
theorem dX8_tell_72 : decode cX8_tell 72 = .ok (.iload_n 2, 1) := by decide +kernel
theorem dX8_tell_73 : decode cX8_tell 73 = .ok (.invokevirtual 82, 3) := by decide +kernel
theorem dX8_tell_76 : decode cX8_tell 76 = .ok (.ireturn, 1) := by decide +kernel
theorem dX8_tell_77 : decode cX8_tell 77 = .ok (.aload_n 0, 1) := by decide +kernel
theorem dX8_tell_78 : decode cX8_tell 78 = .ok (.aload_n 0, 1) := by decide +kernel
theorem dX8_tell_79 : decode cX8_tell 79 = .ok (.getfield 7, 3) := by decide +kernel
theorem dX8_tell_82 : decode cX8_tell 82 = .ok (.invokevirtual 85, 3) := by decide +kernel
theorem dX8_tell_85 : decode cX8_tell 85 = .ok (.aload_n 0, 1) := by decide +kernel
theorem dX8_tell_86 : decode cX8_tell 86 = .ok (.iload_n 1, 1) := by decide +kernel
theorem dX8_tell_87 : decode cX8_tell 87 = .ok (.iconst 1, 1) := by decide +kernel
theorem dX8_tell_88 : decode cX8_tell 88 = .ok (.iload_n 2, 1) := by decide +kernel
theorem dX8_tell_89 : decode cX8_tell 89 = .ok (.invokevirtual 36, 3) := by decide +kernel
theorem dX8_tell_92 : decode cX8_tell 92 = .ok (.aload_n 0, 1) := by decide +kernel
theorem dX8_tell_93 : decode cX8_tell 93 = .ok (.iload_n 1, 1) := by decide +kernel
theorem dX8_tell_94 : decode cX8_tell 94 = .ok (.iconst 2, 1) := by decide +kernel
theorem dX8_tell_95 : decode cX8_tell 95 = .ok (.iload_n 3, 1) := by decide +kernel
theorem dX8_tell_96 : decode cX8_tell 96 = .ok (.invokevirtual 36, 3) := by decide +kernel
theorem dX8_tell_99 : decode cX8_tell 99 = .ok (.iload 4, 2) := by decide +kernel
theorem dX8_tell_101 : decode cX8_tell 101 = .ok (.ireturn, 1) := by decide +kernel
theorem dX8_nextOne_0 : decode cX8_nextOne 0 = .ok (.iconst (-1), 1) := by decide +kernel
theorem dX8_nextOne_1 : decode cX8_nextOne 1 = .ok (.istore_n 1, 1) := by decide +kernel
theorem dX8_nextOne_2 : decode cX8_nextOne 2 = .ok (.iconst 0, 1) := by decide +kernel
theorem dX8_nextOne_3 : decode cX8_nextOne 3 = .ok (.istore_n 2, 1) := by decide +kernel
theorem dX8_nextOne_4 : decode cX8_nextOne 4 = .ok (.iload_n 2, 1) := by decide +kernel
theorem dX8_nextOne_5 : decode cX8_nextOne 5 = .ok (.aload_n 0, 1) := by decide +kernel
theorem dX8_nextOne_6 : decode cX8_nextOne 6 = .ok (.getfield 7, 3) := by decide +kernel
theorem dX8_nextOne_9 : decode cX8_nextOne 9 = .ok (.bipush 9, 2) := by decide +kernel
theorem dX8_nextOne_11 : decode cX8_nextOne 11 = .ok (.iaload, 1) := by decide +kernel
theorem dX8_nextOne_12 : decode cX8_nextOne 12 = .ok (.if_icmp .ge 36, 3) := by decide +kernel
theorem dX8_nextOne_15 : decode cX8_nextOne 15 = .ok (.iload_n 1, 1) := by decide +kernel
theorem dX8_nextOne_16 : decode cX8_nextOne 16 = .ok (.ifCond .lt 24, 3) := by decide +kernel
theorem dX8_nextOne_19 : decode cX8_nextOne 19 = .ok (.aload_n 0, 1) := by decide +kernel
theorem dX8_nextOne_20 : decode cX8_nextOne 20 = .ok (.getfield 7, 3) := by decide +kernel
theorem dX8_nextOne_23 : decode cX8_nextOne 23 = .ok (.bipush 11, 2) := by decide +kernel
theorem dX8_nextOne_25 : decode cX8_nextOne 25 = .ok (.iload_n 2, 1) := by decide +kernel
theorem dX8_nextOne_26 : decode cX8_nextOne 26 = .ok (.iadd, 1) := by decide +kernel
theorem dX8_nextOne_27 : decode cX8_nextOne 27 = .ok (.iaload, 1) := by decide +kernel
theorem dX8_nextOne_28 : decode cX8_nextOne 28 = .ok (.aload_n 0, 1) := by decide +kernel
theorem dX8_nextOne_29 : decode cX8_nextOne 29 = .ok (.getfield 7, 3) := by decide +kernel
theorem dX8_nextOne_32 : decode cX8_nextOne 32 = .ok (.bipush 11, 2) := by decide +kernel
theorem dX8_nextOne_34 : decode cX8_nextOne 34 = .ok (.iload_n 1, 1) := by decide +kernel
theorem dX8_nextOne_35 : decode cX8_nextOne 35 = .ok (.iadd, 1) := by decide +kernel
theorem dX8_nextOne_36 : decode cX8_nextOne 36 = .ok (.iaload, 1) := by decide +kernel
theorem dX8_nextOne_37 : decode cX8_nextOne 37 = .ok (.if_icmp .ge 5, 3) := by decide +kernel
theorem dX8_nextOne_40 : decode cX8_nextOne 40 = .ok (.iload_n 2, 1) := by decide +kernel
theorem dX8_nextOne_41 : decode cX8_nextOne 41 = .ok (.istore_n 1, 1) := by decide +kernel
theorem dX8_nextOne_42 : decode cX8_nextOne 42 = .ok (.iinc 2 1, 3) := by decide +kernel
theorem dX8_nextOne_45 : decode cX8_nextOne 45 = .ok (.goto (-41), 3) := by decide +kernel
theorem dX8_nextOne_48 : decode cX8_nextOne 48 = .ok (.iload_n 1, 1) := by decide +kernel
theorem dX8_nextOne_49 : decode cX8_nextOne 49 = .ok (.ireturn, 1) := by decide +kernel
set_option maxRecDepth 20000 in
theorem ggX8_isPassed_X8_of : GoodIn wsX8_isPassed wsX8_of := goodIn_ca (goodIn_r _ [5, 6, 7, 8, 9, 10, 11, 12, 13, 14, 15, 16, 17, 18, 19, 20, 21, 22, 23, 24, 25] (by decide +kernel) (by decide +kernel)) (goodIn_sub (fun _ h => List.mem_cons_of_mem _ (List.mem_append_right _ h)) (by decide +kernel))
set_option maxRecDepth 20000 in
theorem gX8_isPassed_X8_of : GoodIn wsX8_isPassed (wsV RX8 63 RX8 yX8_of wsX8_of) := goodIn_app (goodIn_of _ (by decide +kernel)) ggX8_isPassed_X8_of
theorem dX8_isPassed_0 : decode cX8_isPassed 0 = .ok (.iload 4, 2) := by decide +kernel
theorem dX8_isPassed_2 : decode cX8_isPassed 2 = .ok (.iconst 1, 1) := by decide +kernel
theorem dX8_isPassed_3 : decode cX8_isPassed 3 = .ok (.if_icmp .ne 21, 3) := by decide +kernel
theorem dX8_isPassed_6 : decode cX8_isPassed 6 = .ok (.iload_n 2, 1) := by decide +kernel
theorem dX8_isPassed_7 : decode cX8_isPassed 7 = .ok (.aload_n 0, 1) := by decide +kernel
theorem dX8_isPassed_8 : decode cX8_isPassed 8 = .ok (.iload_n 1, 1) := by decide +kernel
theorem dX8_isPassed_9 : decode cX8_isPassed 9 = .ok (.iconst 1, 1) := by decide +kernel
theorem dX8_isPassed_10 : decode cX8_isPassed 10 = .ok (.invokevirtual 63, 3) := by decide +kernel
theorem dX8_isPassed_13 : decode cX8_isPassed 13 = .ok (.if_icmp .lt 7, 3) := by decide +kernel
theorem dX8_isPassed_16 : decode cX8_isPassed 16 = .ok (.iconst 1, 1) := by decide +kernel
theorem dX8_isPassed_17 : decode cX8_isPassed 17 = .ok (.goto 46, 3) := by decide +kernel
theorem dX8_isPassed_20 : decode cX8_isPassed 20 = .ok (.iconst 0, 1) := by decide +kernel
theorem dX8_isPassed_21 : decode cX8_isPassed 21 = .ok (.goto 42, 3) := by decide +kernel
theorem dX8_isPassed_24 : decode cX8_isPassed 24 = .ok (.iload 4, 2) := by decide +kernel
theorem dX8_isPassed_26 : decode cX8_isPassed 26 = .ok (.iconst 2, 1) := by decide +kernel
theorem dX8_isPassed_27 : decode cX8_isPassed 27 = .ok (.if_icmp .ne 21, 3) := by decide +kernel
theorem dX8_isPassed_30 : decode cX8_isPassed 30 = .ok (.iload_n 3, 1) := by decide +kernel
theorem dX8_isPassed_31 : decode cX8_isPassed 31 = .ok (.aload_n 0, 1) := by decide +kernel
theorem dX8_isPassed_32 : decode cX8_isPassed 32 = .ok (.iload_n 1, 1) := by decide +kernel
theorem dX8_isPassed_33 : decode cX8_isPassed 33 = .ok (.iconst 2, 1) := by decide +kernel
theorem dX8_isPassed_34 : decode cX8_isPassed 34 = .ok (.invokevirtual 63, 3) := by decide +kernel
theorem dX8_isPassed_37 : decode cX8_isPassed 37 = .ok (.if_icmp .gt 7, 3) := by decide +kernel
theorem dX8_isPassed_40 : decode cX8_isPassed 40 = .ok (.iconst 1, 1) := by decide +kernel
theorem dX8_isPassed_41 : decode cX8_isPassed 41 = .ok (.goto 22, 3) := by decide +kernel
theorem dX8_isPassed_44 : decode cX8_isPassed 44 = .ok (.iconst 0, 1) := by decide +kernel
theorem dX8_isPassed_45 : decode cX8_isPassed 45 = .ok (.goto 18, 3) := by decide +kernel
theorem dX8_isPassed_48 : decode cX8_isPassed 48 = .ok (.iload_n 2, 1) := by decide +kernel
theorem dX8_isPassed_49 : decode cX8_isPassed 49 = .ok (.aload_n 0, 1) := by decide +kernel
theorem dX8_isPassed_50 : decode cX8_isPassed 50 = .ok (.iload_n 1, 1) := by decide +kernel
theorem dX8_isPassed_51 : decode cX8_isPassed 51 = .ok (.iconst 3, 1) := by decide +kernel
theorem dX8_isPassed_52 : decode cX8_isPassed 52 = .ok (.invokevirtual 63, 3) := by decide +kernel
theorem dX8_isPassed_55 : decode cX8_isPassed 55 = .ok (.if_icmp .eq 7, 3) := by decide +kernel
theorem dX8_isPassed_58 : decode cX8_isPassed 58 = .ok (.iconst 1, 1) := by decide +kernel
theorem dX8_isPassed_59 : decode cX8_isPassed 59 = .ok (.goto 4, 3) := by decide +kernel
theorem dX8_isPassed_62 : decode cX8_isPassed 62 = .ok (.iconst 0, 1) := by decide +kernel
theorem dX8_isPassed_63 : decode cX8_isPassed 63 = .ok (.ireturn, 1) := by decide +kernel
theorem dX8_tests_0 : decode cX8_tests 0 = .ok (.iload_n 0, 1) := by decide +kernel
theorem dX8_tests_1 : decode cX8_tests 1 = .ok (.bipush 9, 2) := by decide +kernel
theorem dX8_tests_3 : decode cX8_tests 3 = .ok (.if_icmp .ne 7, 3) := by decide +kernel
theorem dX8_tests_6 : decode cX8_tests 6 = .ok (.iconst 1, 1) := by decide +kernel
theorem dX8_tests_7 : decode cX8_tests 7 = .ok (.goto 13, 3) := by decide +kernel
theorem dX8_tests_10 : decode cX8_tests 10 = .ok (.iload_n 0, 1) := by decide +kernel
theorem dX8_tests_11 : decode cX8_tests 11 = .ok (.iconst 5, 1) := by decide +kernel
theorem dX8_tests_12 : decode cX8_tests 12 = .ok (.if_icmp .le 7, 3) := by decide +kernel
theorem dX8_tests_15 : decode cX8_tests 15 = .ok (.iconst 2, 1) := by decide +kernel
theorem dX8_tests_16 : decode cX8_tests 16 = .ok (.goto 4, 3) := by decide +kernel
theorem dX8_tests_19 : decode cX8_tests 19 = .ok (.iconst 3, 1) := by decide +kernel
theorem dX8_tests_20 : decode cX8_tests 20 = .ok (.ireturn, 1) := by decide +kernel
set_option maxRecDepth 20000 in
theorem ggX8_failed_X8_isBlank : GoodIn wsX8_failed wsX8_isBlank := goodIn_ca (goodIn_r _ [5, 6, 7, 8, 4, 9, 10, 11, 12, 13, 14, 22, 23, 24, 25, 26, 27, 28, 29, 30, 31, 32, 33, 34, 35, 36, 37, 38, 39, 40] (by decide +kernel) (by decide +kernel)) (goodIn_sub (fun _ h => List.mem_cons_of_mem _ (List.mem_append_right _ h)) (by decide +kernel))
set_option maxRecDepth 20000 in
theorem gX8_failed_X8_isBlank : GoodIn wsX8_failed (wsV RX8 93 RX8 yX8_isBlank wsX8_isBlank) := goodIn_app (goodIn_of _ (by decide +kernel)) ggX8_failed_X8_isBlank
set_option maxRecDepth 20000 in
theorem ggX8_failed_X8_tests : GoodIn wsX8_failed wsX8_tests := goodIn_r _ [17] (by decide +kernel) (by decide +kernel)
set_option maxRecDepth 20000 in
theorem gX8_failed_X8_tests : GoodIn wsX8_failed (va_wsS RX8 97 yX8_tests wsX8_tests) := goodIn_app (goodIn_of _ (by decide +kernel)) ggX8_failed_X8_tests
set_option maxRecDepth 20000 in
theorem ggX8_failed_X8_on : GoodIn wsX8_failed wsX8_on := goodIn_ca (goodIn_r _ [9, 10, 11, 12, 4, 13, 14, 22, 23, 24, 25, 26, 27, 28, 29, 30, 31, 32, 33, 34, 35, 36, 37, 38, 39, 40] (by decide +kernel) (by decide +kernel)) (goodIn_sub (fun _ h => List.mem_cons_of_mem _ (List.mem_append_right _ h)) (by decide +kernel))
set_option maxRecDepth 20000 in
theorem gX8_failed_X8_on : GoodIn wsX8_failed (wsV RX8 67 RX8 yX8_on wsX8_on) := goodIn_app (goodIn_of _ (by decide +kernel)) ggX8_failed_X8_on
set_option maxRecDepth 20000 in
theorem ggX8_failed_X8_isPassed : GoodIn wsX8_failed wsX8_isPassed := goodIn_ca (goodIn_r _ [21, 10, 11, 12, 4, 13, 14, 22, 23, 24, 25, 26, 27, 28, 29, 30, 31, 32, 33, 34, 35, 36, 37, 38, 39, 40] (by decide +kernel) (by decide +kernel)) (goodIn_sub (fun _ h => List.mem_cons_of_mem _ (List.mem_append_right _ h)) (by decide +kernel))
set_option maxRecDepth 20000 in
theorem gX8_failed_X8_isPassed : GoodIn wsX8_failed (wsV RX8 101 RX8 yX8_isPassed wsX8_isPassed) := goodIn_app (goodIn_of _ (by decide +kernel)) ggX8_failed_X8_isPassed
theorem dX8_failed_0 : decode cX8_failed 0 = .ok (.aload_n 0, 1) := by decide +kernel
theorem dX8_failed_1 : decode cX8_failed 1 = .ok (.iload_n 1, 1) := by decide +kernel
theorem dX8_failed_2 : decode cX8_failed 2 = .ok (.iload_n 2, 1) := by decide +kernel
theorem dX8_failed_3 : decode cX8_failed 3 = .ok (.invokevirtual 93, 3) := by decide +kernel
theorem dX8_failed_6 : decode cX8_failed 6 = .ok (.ifCond .eq 5, 3) := by decide +kernel
theorem dX8_failed_9 : decode cX8_failed 9 = .ok (.iconst 0, 1) := by decide +kernel
theorem dX8_failed_10 : decode cX8_failed 10 = .ok (.ireturn, 1) := by decide +kernel
theorem dX8_failed_11 : decode cX8_failed 11 = .ok (.iconst 1, 1) := by decide +kernel
theorem dX8_failed_12 : decode cX8_failed 12 = .ok (.istore 4, 2) := by decide +kernel
theorem dX8_failed_14 : decode cX8_failed 14 = .ok (.iload 4, 2) := by decide +kernel
theorem dX8_failed_16 : decode cX8_failed 16 = .ok (.iload_n 3, 1) := by decide +kernel
theorem dX8_failed_17 : decode cX8_failed 17 = .ok (.invokestatic 97, 3) := by decide +kernel
theorem dX8_failed_20 : decode cX8_failed 20 = .ok (.if_icmp .gt 36, 3) := by decide +kernel
theorem dX8_failed_23 : decode cX8_failed 23 = .ok (.aload_n 0, 1) := by decide +kernel
theorem dX8_failed_24 : decode cX8_failed 24 = .ok (.iload_n 1, 1) := by decide +kernel
theorem dX8_failed_25 : decode cX8_failed 25 = .ok (.aload_n 0, 1) := by decide +kernel
theorem dX8_failed_26 : decode cX8_failed 26 = .ok (.iload_n 1, 1) := by decide +kernel
theorem dX8_failed_27 : decode cX8_failed 27 = .ok (.iload_n 2, 1) := by decide +kernel
theorem dX8_failed_28 : decode cX8_failed 28 = .ok (.iconst 1, 1) := by decide +kernel
theorem dX8_failed_29 : decode cX8_failed 29 = .ok (.invokevirtual 67, 3) := by decide +kernel
theorem dX8_failed_32 : decode cX8_failed 32 = .ok (.aload_n 0, 1) := by decide +kernel
theorem dX8_failed_33 : decode cX8_failed 33 = .ok (.iload_n 1, 1) := by decide +kernel
theorem dX8_failed_34 : decode cX8_failed 34 = .ok (.iload_n 2, 1) := by decide +kernel
theorem dX8_failed_35 : decode cX8_failed 35 = .ok (.iconst 2, 1) := by decide +kernel
theorem dX8_failed_36 : decode cX8_failed 36 = .ok (.invokevirtual 67, 3) := by decide +kernel
theorem dX8_failed_39 : decode cX8_failed 39 = .ok (.iload 4, 2) := by decide +kernel
theorem dX8_failed_41 : decode cX8_failed 41 = .ok (.invokevirtual 101, 3) := by decide +kernel
theorem dX8_failed_44 : decode cX8_failed 44 = .ok (.ifCond .ne 6, 3) := by decide +kernel
theorem dX8_failed_47 : decode cX8_failed 47 = .ok (.iload 4, 2) := by decide +kernel
theorem dX8_failed_49 : decode cX8_failed 49 = .ok (.ireturn, 1) := by decide +kernel
theorem dX8_failed_50 : decode cX8_failed 50 = .ok (.iinc 4 1, 3) := by decide +kernel
theorem dX8_failed_53 : decode cX8_failed 53 = .ok (.goto (-39), 3) := by decide +kernel
theorem dX8_failed_56 : decode cX8_failed 56 = .ok (.iconst 0, 1) := by decide +kernel
theorem dX8_failed_57 : decode cX8_failed 57 = .ok (.ireturn, 1) := by decide +kernel
set_option maxRecDepth 20000 in
theorem ggX8_tires_X8_within : GoodIn wsX8_tires wsX8_within := goodIn_r _ [5] (by decide +kernel) (by decide +kernel)
set_option maxRecDepth 20000 in
theorem gX8_tires_X8_within : GoodIn wsX8_tires (va_wsS RX8 105 yX8_within wsX8_within) := goodIn_app (goodIn_of _ (by decide +kernel)) ggX8_tires_X8_within
theorem dX8_tires_0 : decode cX8_tires 0 = .ok (.aload_n 0, 1) := by decide +kernel
theorem dX8_tires_1 : decode cX8_tires 1 = .ok (.getfield 7, 3) := by decide +kernel
theorem dX8_tires_4 : decode cX8_tires 4 = .ok (.bipush 11, 2) := by decide +kernel
theorem dX8_tires_6 : decode cX8_tires 6 = .ok (.iload_n 1, 1) := by decide +kernel
theorem dX8_tires_7 : decode cX8_tires 7 = .ok (.iadd, 1) := by decide +kernel
theorem dX8_tires_8 : decode cX8_tires 8 = .ok (.aload_n 0, 1) := by decide +kernel
theorem dX8_tires_9 : decode cX8_tires 9 = .ok (.getfield 7, 3) := by decide +kernel
theorem dX8_tires_12 : decode cX8_tires 12 = .ok (.bipush 11, 2) := by decide +kernel
theorem dX8_tires_14 : decode cX8_tires 14 = .ok (.iload_n 1, 1) := by decide +kernel
theorem dX8_tires_15 : decode cX8_tires 15 = .ok (.iadd, 1) := by decide +kernel
theorem dX8_tires_16 : decode cX8_tires 16 = .ok (.iaload, 1) := by decide +kernel
theorem dX8_tires_17 : decode cX8_tires 17 = .ok (.iload_n 2, 1) := by decide +kernel
theorem dX8_tires_18 : decode cX8_tires 18 = .ok (.iadd, 1) := by decide +kernel
theorem dX8_tires_19 : decode cX8_tires 19 = .ok (.iconst 0, 1) := by decide +kernel
theorem dX8_tires_20 : decode cX8_tires 20 = .ok (.bipush 9, 2) := by decide +kernel
theorem dX8_tires_22 : decode cX8_tires 22 = .ok (.invokestatic 105, 3) := by decide +kernel
theorem dX8_tires_25 : decode cX8_tires 25 = .ok (.iastore, 1) := by decide +kernel
theorem dX8_tires_26 : decode cX8_tires 26 = .ok (.return_, 1) := by decide +kernel
set_option maxRecDepth 20000 in
theorem ggX8_rejects_X8_on : GoodIn wsX8_rejects wsX8_on := goodIn_ca (goodIn_r _ [6, 7, 8, 9, 5, 10, 1, 11, 12, 13, 14, 15, 16, 17, 18, 19, 20, 21, 22, 23, 24, 25, 26, 27, 28, 29] (by decide +kernel) (by decide +kernel)) (goodIn_sub (fun _ h => List.mem_cons_of_mem _ (List.mem_append_right _ h)) (by decide +kernel))
set_option maxRecDepth 20000 in
theorem gX8_rejects_X8_on : GoodIn wsX8_rejects (wsV RX8 67 RX8 yX8_on wsX8_on) := goodIn_app (goodIn_of _ (by decide +kernel)) ggX8_rejects_X8_on
theorem dX8_rejects_0 : decode cX8_rejects 0 = .ok (.aload_n 0, 1) := by decide +kernel
theorem dX8_rejects_1 : decode cX8_rejects 1 = .ok (.getfield 7, 3) := by decide +kernel
theorem dX8_rejects_4 : decode cX8_rejects 4 = .ok (.iconst 4, 1) := by decide +kernel
theorem dX8_rejects_5 : decode cX8_rejects 5 = .ok (.dup2, 1) := by decide +kernel
theorem dX8_rejects_6 : decode cX8_rejects 6 = .ok (.iaload, 1) := by decide +kernel
theorem dX8_rejects_7 : decode cX8_rejects 7 = .ok (.iconst 1, 1) := by decide +kernel
theorem dX8_rejects_8 : decode cX8_rejects 8 = .ok (.iadd, 1) := by decide +kernel
theorem dX8_rejects_9 : decode cX8_rejects 9 = .ok (.iastore, 1) := by decide +kernel
theorem dX8_rejects_10 : decode cX8_rejects 10 = .ok (.aload_n 0, 1) := by decide +kernel
theorem dX8_rejects_11 : decode cX8_rejects 11 = .ok (.getfield 7, 3) := by decide +kernel
theorem dX8_rejects_14 : decode cX8_rejects 14 = .ok (.bipush 10, 2) := by decide +kernel
theorem dX8_rejects_16 : decode cX8_rejects 16 = .ok (.iaload, 1) := by decide +kernel
theorem dX8_rejects_17 : decode cX8_rejects 17 = .ok (.bipush 8, 2) := by decide +kernel
theorem dX8_rejects_19 : decode cX8_rejects 19 = .ok (.if_icmp .ne 14, 3) := by decide +kernel
theorem dX8_rejects_22 : decode cX8_rejects 22 = .ok (.aload_n 0, 1) := by decide +kernel
theorem dX8_rejects_23 : decode cX8_rejects 23 = .ok (.getfield 7, 3) := by decide +kernel
theorem dX8_rejects_26 : decode cX8_rejects 26 = .ok (.iconst 5, 1) := by decide +kernel
theorem dX8_rejects_27 : decode cX8_rejects 27 = .ok (.dup2, 1) := by decide +kernel
theorem dX8_rejects_28 : decode cX8_rejects 28 = .ok (.iaload, 1) := by decide +kernel
theorem dX8_rejects_29 : decode cX8_rejects 29 = .ok (.iconst 1, 1) := by decide +kernel
theorem dX8_rejects_30 : decode cX8_rejects 30 = .ok (.iadd, 1) := by decide +kernel
theorem dX8_rejects_31 : decode cX8_rejects 31 = .ok (.iastore, 1) := by decide +kernel
theorem dX8_rejects_32 : decode cX8_rejects 32 = .ok (.return_, 1) := by decide +kernel
theorem dX8_rejects_33 : decode cX8_rejects 33 = .ok (.bipush 93, 2) := by decide +kernel
theorem dX8_rejects_35 : decode cX8_rejects 35 = .ok (.iconst 4, 1) := by decide +kernel
theorem dX8_rejects_36 : decode cX8_rejects 36 = .ok (.aload_n 0, 1) := by decide +kernel
theorem dX8_rejects_37 : decode cX8_rejects 37 = .ok (.getfield 7, 3) := by decide +kernel
theorem dX8_rejects_40 : decode cX8_rejects 40 = .ok (.bipush 10, 2) := by decide +kernel
theorem dX8_rejects_42 : decode cX8_rejects 42 = .ok (.iaload, 1) := by decide +kernel
theorem dX8_rejects_43 : decode cX8_rejects 43 = .ok (.imul, 1) := by decide +kernel
theorem dX8_rejects_44 : decode cX8_rejects 44 = .ok (.iadd, 1) := by decide +kernel
theorem dX8_rejects_45 : decode cX8_rejects 45 = .ok (.istore_n 3, 1) := by decide +kernel
theorem dX8_rejects_46 : decode cX8_rejects 46 = .ok (.aload_n 0, 1) := by decide +kernel
theorem dX8_rejects_47 : decode cX8_rejects 47 = .ok (.getfield 7, 3) := by decide +kernel
theorem dX8_rejects_50 : decode cX8_rejects 50 = .ok (.iload_n 3, 1) := by decide +kernel
theorem dX8_rejects_51 : decode cX8_rejects 51 = .ok (.iconst 0, 1) := by decide +kernel
theorem dX8_rejects_52 : decode cX8_rejects 52 = .ok (.iadd, 1) := by decide +kernel
theorem dX8_rejects_53 : decode cX8_rejects 53 = .ok (.aload_n 0, 1) := by decide +kernel
theorem dX8_rejects_54 : decode cX8_rejects 54 = .ok (.iload_n 1, 1) := by decide +kernel
theorem dX8_rejects_55 : decode cX8_rejects 55 = .ok (.iconst 0, 1) := by decide +kernel
theorem dX8_rejects_56 : decode cX8_rejects 56 = .ok (.iconst 1, 1) := by decide +kernel
theorem dX8_rejects_57 : decode cX8_rejects 57 = .ok (.invokevirtual 67, 3) := by decide +kernel
theorem dX8_rejects_60 : decode cX8_rejects 60 = .ok (.iastore, 1) := by decide +kernel
theorem dX8_rejects_61 : decode cX8_rejects 61 = .ok (.aload_n 0, 1) := by decide +kernel
theorem dX8_rejects_62 : decode cX8_rejects 62 = .ok (.getfield 7, 3) := by decide +kernel
theorem dX8_rejects_65 : decode cX8_rejects 65 = .ok (.iload_n 3, 1) := by decide +kernel
theorem dX8_rejects_66 : decode cX8_rejects 66 = .ok (.iconst 1, 1) := by decide +kernel
theorem dX8_rejects_67 : decode cX8_rejects 67 = .ok (.iadd, 1) := by decide +kernel
theorem dX8_rejects_68 : decode cX8_rejects 68 = .ok (.aload_n 0, 1) := by decide +kernel
theorem dX8_rejects_69 : decode cX8_rejects 69 = .ok (.iload_n 1, 1) := by decide +kernel
theorem dX8_rejects_70 : decode cX8_rejects 70 = .ok (.iconst 0, 1) := by decide +kernel
theorem dX8_rejects_71 : decode cX8_rejects 71 = .ok (.iconst 2, 1) := by decide +kernel
theorem dX8_rejects_72 : decode cX8_rejects 72 = .ok (.invokevirtual 67, 3) := by decide +kernel
theorem dX8_rejects_75 : decode cX8_rejects 75 = .ok (.iastore, 1) := by decide +kernel
theorem dX8_rejects_76 : decode cX8_rejects 76 = .ok (.aload_n 0, 1) := by decide +kernel
theorem dX8_rejects_77 : decode cX8_rejects 77 = .ok (.getfield 7, 3) := by decide +kernel
theorem dX8_rejects_80 : decode cX8_rejects 80 = .ok (.iload_n 3, 1) := by decide +kernel
theorem dX8_rejects_81 : decode cX8_rejects 81 = .ok (.iconst 2, 1) := by decide +kernel
theorem dX8_rejects_82 : decode cX8_rejects 82 = .ok (.iadd, 1) := by decide +kernel
theorem dX8_rejects_83 : decode cX8_rejects 83 = .ok (.aload_n 0, 1) := by decide +kernel
theorem dX8_rejects_84 : decode cX8_rejects 84 = .ok (.iload_n 1, 1) := by decide +kernel
theorem dX8_rejects_85 : decode cX8_rejects 85 = .ok (.iconst 0, 1) := by decide +kernel
theorem dX8_rejects_86 : decode cX8_rejects 86 = .ok (.iconst 3, 1) := by decide +kernel
theorem dX8_rejects_87 : decode cX8_rejects 87 = .ok (.invokevirtual 67, 3) := by decide +kernel
theorem dX8_rejects_90 : decode cX8_rejects 90 = .ok (.iastore, 1) := by decide +kernel
theorem dX8_rejects_91 : decode cX8_rejects 91 = .ok (.aload_n 0, 1) := by decide +kernel
theorem dX8_rejects_92 : decode cX8_rejects 92 = .ok (.getfield 7, 3) := by decide +kernel
theorem dX8_rejects_95 : decode cX8_rejects 95 = .ok (.iload_n 3, 1) := by decide +kernel
theorem dX8_rejects_96 : decode cX8_rejects 96 = .ok (.iconst 3, 1) := by decide +kernel
theorem dX8_rejects_97 : decode cX8_rejects 97 = .ok (.iadd, 1) := by decide +kernel
theorem dX8_rejects_98 : decode cX8_rejects 98 = .ok (.iload_n 2, 1) := by decide +kernel
theorem dX8_rejects_99 : decode cX8_rejects 99 = .ok (.iastore, 1) := by decide +kernel
theorem dX8_rejects_100 : decode cX8_rejects 100 = .ok (.aload_n 0, 1) := by decide +kernel
theorem dX8_rejects_101 : decode cX8_rejects 101 = .ok (.getfield 7, 3) := by decide +kernel
theorem dX8_rejects_104 : decode cX8_rejects 104 = .ok (.bipush 10, 2) := by decide +kernel
theorem dX8_rejects_106 : decode cX8_rejects 106 = .ok (.dup2, 1) := by decide +kernel
theorem dX8_rejects_107 : decode cX8_rejects 107 = .ok (.iaload, 1) := by decide +kernel
theorem dX8_rejects_108 : decode cX8_rejects 108 = .ok (.iconst 1, 1) := by decide +kernel
theorem dX8_rejects_109 : decode cX8_rejects 109 = .ok (.iadd, 1) := by decide +kernel
theorem dX8_rejects_110 : decode cX8_rejects 110 = .ok (.iastore, 1) := by decide +kernel
theorem dX8_rejects_111 : decode cX8_rejects 111 = .ok (.return_, 1) := by decide +kernel
set_option maxRecDepth 20000 in
theorem ggX8_inspects_X8_nextOne : GoodIn wsX8_inspects wsX8_nextOne := goodIn_ca (goodIn_r _ [6, 1, 49, 50, 51, 52, 53, 54, 55, 56, 57, 58, 59, 60, 61, 62, 63, 64, 65, 66, 67] (by decide +kernel) (by decide +kernel)) (goodIn_sub (fun _ h => List.mem_cons_of_mem _ (List.mem_append_right _ h)) (by decide +kernel))
set_option maxRecDepth 20000 in
theorem gX8_inspects_X8_nextOne : GoodIn wsX8_inspects (wsV RX8 108 RX8 yX8_nextOne wsX8_nextOne) := goodIn_app (goodIn_of _ (by decide +kernel)) ggX8_inspects_X8_nextOne
set_option maxRecDepth 20000 in
theorem ggX8_inspects_X8_failed : GoodIn wsX8_inspects wsX8_failed := goodIn_ca (goodIn_r _ [10, 11, 12, 13, 5, 14, 15, 16, 17, 18, 19, 20, 21, 22, 1, 23, 24, 25, 26, 27, 28, 29, 49, 50, 51, 52, 53, 54, 55, 56, 57, 58, 59, 60, 61, 62, 63, 64, 65, 66, 67] (by decide +kernel) (by decide +kernel)) (goodIn_sub (fun _ h => List.mem_cons_of_mem _ (List.mem_append_right _ h)) (by decide +kernel))
set_option maxRecDepth 20000 in
theorem gX8_inspects_X8_failed : GoodIn wsX8_inspects (wsV RX8 112 RX8 yX8_failed wsX8_failed) := goodIn_app (goodIn_of _ (by decide +kernel)) ggX8_inspects_X8_failed
set_option maxRecDepth 20000 in
theorem ggX8_inspects_X8_isBlank : GoodIn wsX8_inspects wsX8_isBlank := goodIn_ca (goodIn_r _ [14, 15, 16, 17, 5, 18, 19, 20, 21, 22, 1, 49, 50, 51, 52, 53, 54, 55, 56, 57, 58, 59, 60, 61, 62, 63, 64, 65, 66, 67] (by decide +kernel) (by decide +kernel)) (goodIn_sub (fun _ h => List.mem_cons_of_mem _ (List.mem_append_right _ h)) (by decide +kernel))
set_option maxRecDepth 20000 in
theorem gX8_inspects_X8_isBlank : GoodIn wsX8_inspects (wsV RX8 93 RX8 yX8_isBlank wsX8_isBlank) := goodIn_app (goodIn_of _ (by decide +kernel)) ggX8_inspects_X8_isBlank
set_option maxRecDepth 20000 in
theorem ggX8_inspects_X8_tires : GoodIn wsX8_inspects wsX8_tires := goodIn_ca (goodIn_r _ [33, 1, 34, 35, 5, 36, 49, 50, 51, 52, 53, 54, 55, 56, 57, 58, 59, 60, 61, 62, 63, 64, 65, 66, 67] (by decide +kernel) (by decide +kernel)) (goodIn_sub (fun _ h => List.mem_cons_of_mem _ (List.mem_append_right _ h)) (by decide +kernel))
set_option maxRecDepth 20000 in
theorem gX8_inspects_X8_tires : GoodIn wsX8_inspects (wsV RX8 115 RX8 yX8_tires wsX8_tires) := goodIn_app (goodIn_of _ (by decide +kernel)) ggX8_inspects_X8_tires
set_option maxRecDepth 20000 in
theorem ggX8_inspects_X8_goes : GoodIn wsX8_inspects wsX8_goes := goodIn_ca (goodIn_r _ [40, 19, 20, 21, 5, 22, 1, 41, 42, 43, 44, 49, 50, 51, 52, 53, 54, 55, 56, 57, 58, 59, 60, 61, 62, 63, 64, 65, 66, 67] (by decide +kernel) (by decide +kernel)) (goodIn_sub (fun _ h => List.mem_cons_of_mem _ (List.mem_append_right _ h)) (by decide +kernel))
set_option maxRecDepth 20000 in
theorem gX8_inspects_X8_goes : GoodIn wsX8_inspects (wsV RX8 119 RX8 yX8_goes wsX8_goes) := goodIn_app (goodIn_of _ (by decide +kernel)) ggX8_inspects_X8_goes
set_option maxRecDepth 20000 in
theorem ggX8_inspects_X8_on : GoodIn wsX8_inspects wsX8_on := goodIn_ca (goodIn_r _ [18, 19, 20, 21, 5, 22, 1, 49, 50, 51, 52, 53, 54, 55, 56, 57, 58, 59, 60, 61, 62, 63, 64, 65, 66, 67] (by decide +kernel) (by decide +kernel)) (goodIn_sub (fun _ h => List.mem_cons_of_mem _ (List.mem_append_right _ h)) (by decide +kernel))
set_option maxRecDepth 20000 in
theorem gX8_inspects_X8_on : GoodIn wsX8_inspects (wsV RX8 67 RX8 yX8_on wsX8_on) := goodIn_app (goodIn_of _ (by decide +kernel)) ggX8_inspects_X8_on
set_option maxRecDepth 20000 in
theorem ggX8_inspects_X8_rejects : GoodIn wsX8_inspects wsX8_rejects := goodIn_ca (goodIn_r _ [48, 1, 15, 16, 17, 5, 18, 19, 20, 21, 22, 49, 50, 51, 52, 53, 54, 55, 56, 57, 58, 59, 60, 61, 62, 63, 64, 65, 66, 67] (by decide +kernel) (by decide +kernel)) (goodIn_sub (fun _ h => List.mem_cons_of_mem _ (List.mem_append_right _ h)) (by decide +kernel))
set_option maxRecDepth 20000 in
theorem gX8_inspects_X8_rejects : GoodIn wsX8_inspects (wsV RX8 123 RX8 yX8_rejects wsX8_rejects) := goodIn_app (goodIn_of _ (by decide +kernel)) ggX8_inspects_X8_rejects
set_option maxRecDepth 20000 in
theorem ggX8_inspects_X8_of : GoodIn wsX8_inspects wsX8_of := goodIn_ca (goodIn_r _ [22, 1, 49, 50, 51, 52, 53, 54, 55, 56, 57, 58, 59, 60, 61, 62, 63, 64, 65, 66, 67] (by decide +kernel) (by decide +kernel)) (goodIn_sub (fun _ h => List.mem_cons_of_mem _ (List.mem_append_right _ h)) (by decide +kernel))
set_option maxRecDepth 20000 in
theorem gX8_inspects_X8_of : GoodIn wsX8_inspects (wsV RX8 63 RX8 yX8_of wsX8_of) := goodIn_app (goodIn_of _ (by decide +kernel)) ggX8_inspects_X8_of
set_option maxRecDepth 20000 in
theorem ggX8_inspects_X8_lays : GoodIn wsX8_inspects wsX8_lays := goodIn_ca (goodIn_r _ [44, 1, 49, 50, 51, 52, 53, 54, 55, 56, 57, 58, 59, 60, 61, 62, 63, 64, 65, 66, 67] (by decide +kernel) (by decide +kernel)) (goodIn_sub (fun _ h => List.mem_cons_of_mem _ (List.mem_append_right _ h)) (by decide +kernel))
set_option maxRecDepth 20000 in
theorem gX8_inspects_X8_lays : GoodIn wsX8_inspects (wsV RX8 36 RX8 yX8_lays wsX8_lays) := goodIn_app (goodIn_of _ (by decide +kernel)) ggX8_inspects_X8_lays
theorem dX8_inspects_0 : decode cX8_inspects 0 = .ok (.aload_n 0, 1) := by decide +kernel
theorem dX8_inspects_1 : decode cX8_inspects 1 = .ok (.invokevirtual 108, 3) := by decide +kernel
theorem dX8_inspects_4 : decode cX8_inspects 4 = .ok (.istore_n 2, 1) := by decide +kernel
theorem dX8_inspects_5 : decode cX8_inspects 5 = .ok (.aload_n 0, 1) := by decide +kernel
theorem dX8_inspects_6 : decode cX8_inspects 6 = .ok (.iload_n 1, 1) := by decide +kernel
theorem dX8_inspects_7 : decode cX8_inspects 7 = .ok (.iconst 0, 1) := by decide +kernel
theorem dX8_inspects_8 : decode cX8_inspects 8 = .ok (.aload_n 0, 1) := by decide +kernel
theorem dX8_inspects_9 : decode cX8_inspects 9 = .ok (.getfield 7, 3) := by decide +kernel
theorem dX8_inspects_12 : decode cX8_inspects 12 = .ok (.bipush 11, 2) := by decide +kernel
theorem dX8_inspects_14 : decode cX8_inspects 14 = .ok (.iload_n 2, 1) := by decide +kernel
theorem dX8_inspects_15 : decode cX8_inspects 15 = .ok (.iadd, 1) := by decide +kernel
theorem dX8_inspects_16 : decode cX8_inspects 16 = .ok (.iaload, 1) := by decide +kernel
theorem dX8_inspects_17 : decode cX8_inspects 17 = .ok (.invokevirtual 112, 3) := by decide +kernel
theorem dX8_inspects_20 : decode cX8_inspects 20 = .ok (.istore_n 3, 1) := by decide +kernel
theorem dX8_inspects_21 : decode cX8_inspects 21 = .ok (.aload_n 0, 1) := by decide +kernel
theorem dX8_inspects_22 : decode cX8_inspects 22 = .ok (.iload_n 1, 1) := by decide +kernel
theorem dX8_inspects_23 : decode cX8_inspects 23 = .ok (.iconst 0, 1) := by decide +kernel
theorem dX8_inspects_24 : decode cX8_inspects 24 = .ok (.invokevirtual 93, 3) := by decide +kernel
theorem dX8_inspects_27 : decode cX8_inspects 27 = .ok (.ifCond .eq 16, 3) := by decide +kernel
theorem dX8_inspects_30 : decode cX8_inspects 30 = .ok (.aload_n 0, 1) := by decide +kernel
theorem dX8_inspects_31 : decode cX8_inspects 31 = .ok (.iload_n 2, 1) := by decide +kernel
theorem dX8_inspects_32 : decode cX8_inspects 32 = .ok (.iconst (-1), 1) := by decide +kernel
theorem dX8_inspects_33 : decode cX8_inspects 33 = .ok (.invokevirtual 115, 3) := by decide +kernel
theorem dX8_inspects_36 : decode cX8_inspects 36 = .ok (.aload_n 0, 1) := by decide +kernel
theorem dX8_inspects_37 : decode cX8_inspects 37 = .ok (.iload_n 1, 1) := by decide +kernel
theorem dX8_inspects_38 : decode cX8_inspects 38 = .ok (.invokevirtual 119, 3) := by decide +kernel
theorem dX8_inspects_41 : decode cX8_inspects 41 = .ok (.iconst 0, 1) := by decide +kernel
theorem dX8_inspects_42 : decode cX8_inspects 42 = .ok (.ireturn, 1) := by decide +kernel
theorem dX8_inspects_43 : decode cX8_inspects 43 = .ok (.aload_n 0, 1) := by decide +kernel
theorem dX8_inspects_44 : decode cX8_inspects 44 = .ok (.iload_n 1, 1) := by decide +kernel
theorem dX8_inspects_45 : decode cX8_inspects 45 = .ok (.iconst 0, 1) := by decide +kernel
theorem dX8_inspects_46 : decode cX8_inspects 46 = .ok (.iconst 1, 1) := by decide +kernel
theorem dX8_inspects_47 : decode cX8_inspects 47 = .ok (.invokevirtual 67, 3) := by decide +kernel
theorem dX8_inspects_50 : decode cX8_inspects 50 = .ok (.istore 4, 2) := by decide +kernel
theorem dX8_inspects_52 : decode cX8_inspects 52 = .ok (.iload_n 3, 1) := by decide +kernel
theorem dX8_inspects_53 : decode cX8_inspects 53 = .ok (.ifCond .le 9, 3) := by decide +kernel
theorem dX8_inspects_56 : decode cX8_inspects 56 = .ok (.aload_n 0, 1) := by decide +kernel
theorem dX8_inspects_57 : decode cX8_inspects 57 = .ok (.iload_n 1, 1) := by decide +kernel
theorem dX8_inspects_58 : decode cX8_inspects 58 = .ok (.iload_n 3, 1) := by decide +kernel
theorem dX8_inspects_59 : decode cX8_inspects 59 = .ok (.invokevirtual 123, 3) := by decide +kernel
theorem dX8_inspects_62 : decode cX8_inspects 62 = .ok (.aload_n 0, 1) := by decide +kernel
theorem dX8_inspects_63 : decode cX8_inspects 63 = .ok (.getfield 7, 3) := by decide +kernel
theorem dX8_inspects_66 : decode cX8_inspects 66 = .ok (.iconst 3, 1) := by decide +kernel
theorem dX8_inspects_67 : decode cX8_inspects 67 = .ok (.dup2, 1) := by decide +kernel
theorem dX8_inspects_68 : decode cX8_inspects 68 = .ok (.iaload, 1) := by decide +kernel
theorem dX8_inspects_69 : decode cX8_inspects 69 = .ok (.iload_n 3, 1) := by decide +kernel
theorem dX8_inspects_70 : decode cX8_inspects 70 = .ok (.ifCond .ne 7, 3) := by decide +kernel
theorem dX8_inspects_73 : decode cX8_inspects 73 = .ok (.iconst 1, 1) := by decide +kernel
theorem dX8_inspects_74 : decode cX8_inspects 74 = .ok (.goto 4, 3) := by decide +kernel
theorem dX8_inspects_77 : decode cX8_inspects 77 = .ok (.iconst 0, 1) := by decide +kernel
theorem dX8_inspects_78 : decode cX8_inspects 78 = .ok (.iadd, 1) := by decide +kernel
theorem dX8_inspects_79 : decode cX8_inspects 79 = .ok (.iastore, 1) := by decide +kernel
theorem dX8_inspects_80 : decode cX8_inspects 80 = .ok (.aload_n 0, 1) := by decide +kernel
theorem dX8_inspects_81 : decode cX8_inspects 81 = .ok (.iload_n 1, 1) := by decide +kernel
theorem dX8_inspects_82 : decode cX8_inspects 82 = .ok (.iconst 4, 1) := by decide +kernel
theorem dX8_inspects_83 : decode cX8_inspects 83 = .ok (.aload_n 0, 1) := by decide +kernel
theorem dX8_inspects_84 : decode cX8_inspects 84 = .ok (.iload_n 1, 1) := by decide +kernel
theorem dX8_inspects_85 : decode cX8_inspects 85 = .ok (.iconst 4, 1) := by decide +kernel
theorem dX8_inspects_86 : decode cX8_inspects 86 = .ok (.invokevirtual 63, 3) := by decide +kernel
theorem dX8_inspects_89 : decode cX8_inspects 89 = .ok (.iconst 1, 1) := by decide +kernel
theorem dX8_inspects_90 : decode cX8_inspects 90 = .ok (.iadd, 1) := by decide +kernel
theorem dX8_inspects_91 : decode cX8_inspects 91 = .ok (.invokevirtual 36, 3) := by decide +kernel
theorem dX8_inspects_94 : decode cX8_inspects 94 = .ok (.aload_n 0, 1) := by decide +kernel
theorem dX8_inspects_95 : decode cX8_inspects 95 = .ok (.iload_n 1, 1) := by decide +kernel
theorem dX8_inspects_96 : decode cX8_inspects 96 = .ok (.iconst 5, 1) := by decide +kernel
theorem dX8_inspects_97 : decode cX8_inspects 97 = .ok (.aload_n 0, 1) := by decide +kernel
theorem dX8_inspects_98 : decode cX8_inspects 98 = .ok (.iload_n 1, 1) := by decide +kernel
theorem dX8_inspects_99 : decode cX8_inspects 99 = .ok (.iconst 5, 1) := by decide +kernel
theorem dX8_inspects_100 : decode cX8_inspects 100 = .ok (.invokevirtual 63, 3) := by decide +kernel
theorem dX8_inspects_103 : decode cX8_inspects 103 = .ok (.iload_n 3, 1) := by decide +kernel
theorem dX8_inspects_104 : decode cX8_inspects 104 = .ok (.ifCond .ne 7, 3) := by decide +kernel
theorem dX8_inspects_107 : decode cX8_inspects 107 = .ok (.iconst 1, 1) := by decide +kernel
theorem dX8_inspects_108 : decode cX8_inspects 108 = .ok (.goto 4, 3) := by decide +kernel
theorem dX8_inspects_111 : decode cX8_inspects 111 = .ok (.iconst 0, 1) := by decide +kernel
theorem dX8_inspects_112 : decode cX8_inspects 112 = .ok (.iadd, 1) := by decide +kernel
theorem dX8_inspects_113 : decode cX8_inspects 113 = .ok (.invokevirtual 36, 3) := by decide +kernel
theorem dX8_inspects_116 : decode cX8_inspects 116 = .ok (.aload_n 0, 1) := by decide +kernel
theorem dX8_inspects_117 : decode cX8_inspects 117 = .ok (.iload_n 1, 1) := by decide +kernel
theorem dX8_inspects_118 : decode cX8_inspects 118 = .ok (.iconst 3, 1) := by decide +kernel
theorem dX8_inspects_119 : decode cX8_inspects 119 = .ok (.iload 4, 2) := by decide +kernel
theorem dX8_inspects_121 : decode cX8_inspects 121 = .ok (.invokevirtual 36, 3) := by decide +kernel
theorem dX8_inspects_124 : decode cX8_inspects 124 = .ok (.aload_n 0, 1) := by decide +kernel
theorem dX8_inspects_125 : decode cX8_inspects 125 = .ok (.iload_n 2, 1) := by decide +kernel
theorem dX8_inspects_126 : decode cX8_inspects 126 = .ok (.iload 4, 2) := by decide +kernel
theorem dX8_inspects_128 : decode cX8_inspects 128 = .ok (.bipush 7, 2) := by decide +kernel
theorem dX8_inspects_130 : decode cX8_inspects 130 = .ok (.if_icmp .le 7, 3) := by decide +kernel
theorem dX8_inspects_133 : decode cX8_inspects 133 = .ok (.iconst 2, 1) := by decide +kernel
theorem dX8_inspects_134 : decode cX8_inspects 134 = .ok (.goto 4, 3) := by decide +kernel
theorem dX8_inspects_137 : decode cX8_inspects 137 = .ok (.iconst 1, 1) := by decide +kernel
theorem dX8_inspects_138 : decode cX8_inspects 138 = .ok (.invokevirtual 115, 3) := by decide +kernel
theorem dX8_inspects_141 : decode cX8_inspects 141 = .ok (.aload_n 0, 1) := by decide +kernel
theorem dX8_inspects_142 : decode cX8_inspects 142 = .ok (.iload_n 1, 1) := by decide +kernel
theorem dX8_inspects_143 : decode cX8_inspects 143 = .ok (.invokevirtual 119, 3) := by decide +kernel
theorem dX8_inspects_146 : decode cX8_inspects 146 = .ok (.iload_n 3, 1) := by decide +kernel
theorem dX8_inspects_147 : decode cX8_inspects 147 = .ok (.ireturn, 1) := by decide +kernel
set_option maxRecDepth 20000 in
theorem ggX8_inspect_X8_isBelt : GoodIn wsX8_inspect wsX8_isBelt := goodIn_r _ [5, 6, 7, 4, 8] (by decide +kernel) (by decide +kernel)
set_option maxRecDepth 20000 in
theorem gX8_inspect_X8_isBelt : GoodIn wsX8_inspect (va_wsS RX8 75 yX8_isBelt wsX8_isBelt) := goodIn_app (goodIn_of _ (by decide +kernel)) ggX8_inspect_X8_isBelt
set_option maxRecDepth 20000 in
theorem ggX8_inspect_X8_fails : GoodIn wsX8_inspect wsX8_fails := goodIn_r _ [12, 13, 14, 81, 82, 83, 84, 85, 86, 87, 88, 89, 90, 91, 92, 93, 94, 95, 96, 97, 98, 99] (by decide +kernel) (by decide +kernel)
set_option maxRecDepth 20000 in
theorem gX8_inspect_X8_fails : GoodIn wsX8_inspect (wsV RX8 79 RX8 yX8_fails wsX8_fails) := goodIn_app (goodIn_of _ (by decide +kernel)) ggX8_inspect_X8_fails
set_option maxRecDepth 20000 in
theorem ggX8_inspect_X8_of : GoodIn wsX8_inspect wsX8_of := goodIn_ca (goodIn_r _ [18, 1, 81, 82, 83, 84, 85, 86, 87, 88, 89, 90, 91, 92, 93, 94, 95, 96, 97, 98, 99] (by decide +kernel) (by decide +kernel)) (goodIn_sub (fun _ h => List.mem_cons_of_mem _ (List.mem_append_right _ h)) (by decide +kernel))
set_option maxRecDepth 20000 in
theorem gX8_inspect_X8_of : GoodIn wsX8_inspect (wsV RX8 63 RX8 yX8_of wsX8_of) := goodIn_app (goodIn_of _ (by decide +kernel)) ggX8_inspect_X8_of
set_option maxRecDepth 20000 in
theorem ggX8_inspect_X8_refuses : GoodIn wsX8_inspect wsX8_refuses := goodIn_r _ [22, 13, 14, 23, 24, 81, 82, 83, 84, 85, 86, 87, 88, 89, 90, 91, 92, 93, 94, 95, 96, 97, 98, 99] (by decide +kernel) (by decide +kernel)
set_option maxRecDepth 20000 in
theorem gX8_inspect_X8_refuses : GoodIn wsX8_inspect (wsV RX8 82 RX8 yX8_refuses wsX8_refuses) := goodIn_app (goodIn_of _ (by decide +kernel)) ggX8_inspect_X8_refuses
set_option maxRecDepth 20000 in
theorem ggX8_inspect_X8_keeps : GoodIn wsX8_inspect wsX8_keeps := goodIn_ca (goodIn_r _ [28, 13, 29, 30, 31, 32, 33, 4, 34, 81, 82, 83, 84, 85, 86, 87, 88, 89, 90, 91, 92, 93, 94, 95, 96, 97, 98, 99] (by decide +kernel) (by decide +kernel)) (goodIn_sub (fun _ h => List.mem_cons_of_mem _ (List.mem_append_right _ h)) (by decide +kernel))
set_option maxRecDepth 20000 in
theorem gX8_inspect_X8_keeps : GoodIn wsX8_inspect (wsV RX8 85 RX8 yX8_keeps wsX8_keeps) := goodIn_app (goodIn_of _ (by decide +kernel)) ggX8_inspect_X8_keeps
set_option maxRecDepth 20000 in
theorem ggX8_inspect_X8_inspects : GoodIn wsX8_inspect wsX8_inspects := goodIn_ca (goodIn_r _ [38, 1, 39, 40, 41, 4, 42, 43, 44, 45, 46, 47, 48, 49, 50, 51, 52, 53, 54, 15, 16, 17, 18, 55, 56, 57, 58, 59, 60, 61, 62, 63, 64, 65, 66, 67, 68, 69, 70, 71, 72, 73, 74, 75, 76, 77, 78, 79, 80, 81, 82, 83, 84, 85, 86, 87, 88, 89, 90, 91, 92, 93, 94, 95, 96, 97, 98, 99] (by decide +kernel) (by decide +kernel)) (goodIn_sub (fun _ h => List.mem_cons_of_mem _ (List.mem_append_right _ h)) (by decide +kernel))
set_option maxRecDepth 20000 in
theorem gX8_inspect_X8_inspects : GoodIn wsX8_inspect (wsV RX8 126 RX8 yX8_inspects wsX8_inspects) := goodIn_app (goodIn_of _ (by decide +kernel)) ggX8_inspect_X8_inspects
theorem dX8_inspect_0 : decode cX8_inspect 0 = .ok (.aload_n 0, 1) := by decide +kernel
theorem dX8_inspect_1 : decode cX8_inspect 1 = .ok (.iload_n 1, 1) := by decide +kernel
theorem dX8_inspect_2 : decode cX8_inspect 2 = .ok (.invokestatic 75, 3) := by decide +kernel
theorem dX8_inspect_5 : decode cX8_inspect 5 = .ok (.ifCond .eq 7, 3) := by decide +kernel
theorem dX8_inspect_8 : decode cX8_inspect 8 = .ok (.iconst 0, 1) := by decide +kernel
theorem dX8_inspect_9 : decode cX8_inspect 9 = .ok (.goto 4, 3) := by decide +kernel
theorem dX8_inspect_12 : decode cX8_inspect 12 = .ok (.iconst 1, 1) := by decide +kernel
theorem dX8_inspect_13 : decode cX8_inspect 13 = .ok (.invokevirtual 79, 3) := by decide +kernel
theorem dX8_inspect_16 : decode cX8_inspect 16 = .ok (.ifCond .eq 5, 3) := by decide +kernel
theorem dX8_inspect_19 : decode cX8_inspect 19 = .ok (.iconst 0, 1) := by decide +kernel
theorem dX8_inspect_20 : decode cX8_inspect 20 = .ok (.ireturn, 1) := by decide +kernel
theorem dX8_inspect_21 : decode cX8_inspect 21 = .ok (.aload_n 0, 1) := by decide +kernel
theorem dX8_inspect_22 : decode cX8_inspect 22 = .ok (.iload_n 1, 1) := by decide +kernel
theorem dX8_inspect_23 : decode cX8_inspect 23 = .ok (.iconst 0, 1) := by decide +kernel
theorem dX8_inspect_24 : decode cX8_inspect 24 = .ok (.invokevirtual 63, 3) := by decide +kernel
theorem dX8_inspect_27 : decode cX8_inspect 27 = .ok (.ifCond .ne 11, 3) := by decide +kernel
theorem dX8_inspect_30 : decode cX8_inspect 30 = .ok (.aload_n 0, 1) := by decide +kernel
theorem dX8_inspect_31 : decode cX8_inspect 31 = .ok (.iconst 2, 1) := by decide +kernel
theorem dX8_inspect_32 : decode cX8_inspect 32 = .ok (.iconst 3, 1) := by decide +kernel
theorem dX8_inspect_33 : decode cX8_inspect 33 = .ok (.iload_n 1, 1) := by decide +kernel
theorem dX8_inspect_34 : decode cX8_inspect 34 = .ok (.invokevirtual 82, 3) := by decide +kernel
theorem dX8_inspect_37 : decode cX8_inspect 37 = .ok (.ireturn, 1) := by decide +kernel
theorem dX8_inspect_38 : decode cX8_inspect 38 = .ok (.aload_n 0, 1) := by decide +kernel
theorem dX8_inspect_39 : decode cX8_inspect 39 = .ok (.getfield 7, 3) := by decide +kernel
theorem dX8_inspect_42 : decode cX8_inspect 42 = .ok (.bipush 9, 2) := by decide +kernel
theorem dX8_inspect_44 : decode cX8_inspect 44 = .ok (.iaload, 1) := by decide +kernel
theorem dX8_inspect_45 : decode cX8_inspect 45 = .ok (.ifCond .ne 16, 3) := by decide +kernel
theorem dX8_inspect_48 : decode cX8_inspect 48 = .ok (.aload_n 0, 1) := by decide +kernel
theorem dX8_inspect_49 : decode cX8_inspect 49 = .ok (.iconst 2, 1) := by decide +kernel
theorem dX8_inspect_50 : decode cX8_inspect 50 = .ok (.iconst 4, 1) := by decide +kernel
theorem dX8_inspect_51 : decode cX8_inspect 51 = .ok (.aload_n 0, 1) := by decide +kernel
theorem dX8_inspect_52 : decode cX8_inspect 52 = .ok (.getfield 7, 3) := by decide +kernel
theorem dX8_inspect_55 : decode cX8_inspect 55 = .ok (.iconst 1, 1) := by decide +kernel
theorem dX8_inspect_56 : decode cX8_inspect 56 = .ok (.iaload, 1) := by decide +kernel
theorem dX8_inspect_57 : decode cX8_inspect 57 = .ok (.invokevirtual 82, 3) := by decide +kernel
theorem dX8_inspect_60 : decode cX8_inspect 60 = .ok (.ireturn, 1) := by decide +kernel
theorem dX8_inspect_61 : decode cX8_inspect 61 = .ok (.aload_n 0, 1) := by decide +kernel
theorem dX8_inspect_62 : decode cX8_inspect 62 = .ok (.aload_n 0, 1) := by decide +kernel
theorem dX8_inspect_63 : decode cX8_inspect 63 = .ok (.getfield 7, 3) := by decide +kernel
theorem dX8_inspect_66 : decode cX8_inspect 66 = .ok (.invokevirtual 85, 3) := by decide +kernel
theorem dX8_inspect_69 : decode cX8_inspect 69 = .ok (.aload_n 0, 1) := by decide +kernel
theorem dX8_inspect_70 : decode cX8_inspect 70 = .ok (.iload_n 1, 1) := by decide +kernel
theorem dX8_inspect_71 : decode cX8_inspect 71 = .ok (.invokevirtual 126, 3) := by decide +kernel
theorem dX8_inspect_74 : decode cX8_inspect 74 = .ok (.ireturn, 1) := by decide +kernel
set_option maxRecDepth 20000 in
theorem ggX8_hire_X8_refuses : GoodIn wsX8_hire wsX8_refuses := goodIn_r _ [6, 7, 8, 9, 10, 21, 22, 23, 24, 25, 26, 27, 28, 29, 30, 31, 32, 33, 34, 35, 36, 37, 38, 39] (by decide +kernel) (by decide +kernel)
set_option maxRecDepth 20000 in
theorem gX8_hire_X8_refuses : GoodIn wsX8_hire (wsV RX8 82 RX8 yX8_refuses wsX8_refuses) := goodIn_app (goodIn_of _ (by decide +kernel)) ggX8_hire_X8_refuses
set_option maxRecDepth 20000 in
theorem ggX8_hire_X8_keeps : GoodIn wsX8_hire wsX8_keeps := goodIn_ca (goodIn_r _ [14, 7, 15, 16, 17, 18, 19, 5, 20, 21, 22, 23, 24, 25, 26, 27, 28, 29, 30, 31, 32, 33, 34, 35, 36, 37, 38, 39] (by decide +kernel) (by decide +kernel)) (goodIn_sub (fun _ h => List.mem_cons_of_mem _ (List.mem_append_right _ h)) (by decide +kernel))
set_option maxRecDepth 20000 in
theorem gX8_hire_X8_keeps : GoodIn wsX8_hire (wsV RX8 85 RX8 yX8_keeps wsX8_keeps) := goodIn_app (goodIn_of _ (by decide +kernel)) ggX8_hire_X8_keeps
theorem dX8_hire_0 : decode cX8_hire 0 = .ok (.aload_n 0, 1) := by decide +kernel
theorem dX8_hire_1 : decode cX8_hire 1 = .ok (.getfield 7, 3) := by decide +kernel
theorem dX8_hire_4 : decode cX8_hire 4 = .ok (.bipush 9, 2) := by decide +kernel
theorem dX8_hire_6 : decode cX8_hire 6 = .ok (.iaload, 1) := by decide +kernel
theorem dX8_hire_7 : decode cX8_hire 7 = .ok (.iconst 4, 1) := by decide +kernel
theorem dX8_hire_8 : decode cX8_hire 8 = .ok (.if_icmp .ne 11, 3) := by decide +kernel
theorem dX8_hire_11 : decode cX8_hire 11 = .ok (.aload_n 0, 1) := by decide +kernel
theorem dX8_hire_12 : decode cX8_hire 12 = .ok (.iconst 1, 1) := by decide +kernel
theorem dX8_hire_13 : decode cX8_hire 13 = .ok (.iconst 1, 1) := by decide +kernel
theorem dX8_hire_14 : decode cX8_hire 14 = .ok (.iconst 4, 1) := by decide +kernel
theorem dX8_hire_15 : decode cX8_hire 15 = .ok (.invokevirtual 82, 3) := by decide +kernel
theorem dX8_hire_18 : decode cX8_hire 18 = .ok (.ireturn, 1) := by decide +kernel
theorem dX8_hire_19 : decode cX8_hire 19 = .ok (.aload_n 0, 1) := by decide +kernel
theorem dX8_hire_20 : decode cX8_hire 20 = .ok (.aload_n 0, 1) := by decide +kernel
theorem dX8_hire_21 : decode cX8_hire 21 = .ok (.getfield 7, 3) := by decide +kernel
theorem dX8_hire_24 : decode cX8_hire 24 = .ok (.invokevirtual 85, 3) := by decide +kernel
theorem dX8_hire_27 : decode cX8_hire 27 = .ok (.aload_n 0, 1) := by decide +kernel
theorem dX8_hire_28 : decode cX8_hire 28 = .ok (.getfield 7, 3) := by decide +kernel
theorem dX8_hire_31 : decode cX8_hire 31 = .ok (.bipush 11, 2) := by decide +kernel
theorem dX8_hire_33 : decode cX8_hire 33 = .ok (.aload_n 0, 1) := by decide +kernel
theorem dX8_hire_34 : decode cX8_hire 34 = .ok (.getfield 7, 3) := by decide +kernel
theorem dX8_hire_37 : decode cX8_hire 37 = .ok (.bipush 9, 2) := by decide +kernel
theorem dX8_hire_39 : decode cX8_hire 39 = .ok (.iaload, 1) := by decide +kernel
theorem dX8_hire_40 : decode cX8_hire 40 = .ok (.iadd, 1) := by decide +kernel
theorem dX8_hire_41 : decode cX8_hire 41 = .ok (.iconst 0, 1) := by decide +kernel
theorem dX8_hire_42 : decode cX8_hire 42 = .ok (.iastore, 1) := by decide +kernel
theorem dX8_hire_43 : decode cX8_hire 43 = .ok (.aload_n 0, 1) := by decide +kernel
theorem dX8_hire_44 : decode cX8_hire 44 = .ok (.getfield 7, 3) := by decide +kernel
theorem dX8_hire_47 : decode cX8_hire 47 = .ok (.bipush 9, 2) := by decide +kernel
theorem dX8_hire_49 : decode cX8_hire 49 = .ok (.dup2, 1) := by decide +kernel
theorem dX8_hire_50 : decode cX8_hire 50 = .ok (.iaload, 1) := by decide +kernel
theorem dX8_hire_51 : decode cX8_hire 51 = .ok (.iconst 1, 1) := by decide +kernel
theorem dX8_hire_52 : decode cX8_hire 52 = .ok (.iadd, 1) := by decide +kernel
theorem dX8_hire_53 : decode cX8_hire 53 = .ok (.iastore, 1) := by decide +kernel
theorem dX8_hire_54 : decode cX8_hire 54 = .ok (.aload_n 0, 1) := by decide +kernel
theorem dX8_hire_55 : decode cX8_hire 55 = .ok (.getfield 7, 3) := by decide +kernel
theorem dX8_hire_58 : decode cX8_hire 58 = .ok (.bipush 9, 2) := by decide +kernel
theorem dX8_hire_60 : decode cX8_hire 60 = .ok (.iaload, 1) := by decide +kernel
theorem dX8_hire_61 : decode cX8_hire 61 = .ok (.iconst 1, 1) := by decide +kernel
theorem dX8_hire_62 : decode cX8_hire 62 = .ok (.isub, 1) := by decide +kernel
theorem dX8_hire_63 : decode cX8_hire 63 = .ok (.ireturn, 1) := by decide +kernel
set_option maxRecDepth 20000 in
theorem ggX8_isInspector_X8_in : GoodIn wsX8_isInspector wsX8_in := goodIn_r _ [5] (by decide +kernel) (by decide +kernel)
set_option maxRecDepth 20000 in
theorem gX8_isInspector_X8_in : GoodIn wsX8_isInspector (va_wsS RX8 71 yX8_in wsX8_in) := goodIn_app (goodIn_of _ (by decide +kernel)) ggX8_isInspector_X8_in
theorem dX8_isInspector_0 : decode cX8_isInspector 0 = .ok (.iload_n 1, 1) := by decide +kernel
theorem dX8_isInspector_1 : decode cX8_isInspector 1 = .ok (.iconst 0, 1) := by decide +kernel
theorem dX8_isInspector_2 : decode cX8_isInspector 2 = .ok (.aload_n 0, 1) := by decide +kernel
theorem dX8_isInspector_3 : decode cX8_isInspector 3 = .ok (.getfield 7, 3) := by decide +kernel
theorem dX8_isInspector_6 : decode cX8_isInspector 6 = .ok (.bipush 9, 2) := by decide +kernel
theorem dX8_isInspector_8 : decode cX8_isInspector 8 = .ok (.iaload, 1) := by decide +kernel
theorem dX8_isInspector_9 : decode cX8_isInspector 9 = .ok (.iconst 1, 1) := by decide +kernel
theorem dX8_isInspector_10 : decode cX8_isInspector 10 = .ok (.isub, 1) := by decide +kernel
theorem dX8_isInspector_11 : decode cX8_isInspector 11 = .ok (.invokestatic 71, 3) := by decide +kernel
theorem dX8_isInspector_14 : decode cX8_isInspector 14 = .ok (.ireturn, 1) := by decide +kernel
set_option maxRecDepth 20000 in
theorem ggX8_leave_X8_isInspector : GoodIn wsX8_leave wsX8_isInspector := goodIn_ca (goodIn_r _ [6, 1, 7, 8, 5, 9, 26, 27, 28, 29, 30, 31, 32, 33, 34, 35, 36, 37, 38, 39, 40, 41, 42, 43, 44] (by decide +kernel) (by decide +kernel)) (goodIn_sub (fun _ h => List.mem_cons_of_mem _ (List.mem_append_right _ h)) (by decide +kernel))
set_option maxRecDepth 20000 in
theorem gX8_leave_X8_isInspector : GoodIn wsX8_leave (wsV RX8 129 RX8 yX8_isInspector wsX8_isInspector) := goodIn_app (goodIn_of _ (by decide +kernel)) ggX8_leave_X8_isInspector
set_option maxRecDepth 20000 in
theorem ggX8_leave_X8_fails : GoodIn wsX8_leave wsX8_fails := goodIn_r _ [13, 14, 15, 26, 27, 28, 29, 30, 31, 32, 33, 34, 35, 36, 37, 38, 39, 40, 41, 42, 43, 44] (by decide +kernel) (by decide +kernel)
set_option maxRecDepth 20000 in
theorem gX8_leave_X8_fails : GoodIn wsX8_leave (wsV RX8 79 RX8 yX8_fails wsX8_fails) := goodIn_app (goodIn_of _ (by decide +kernel)) ggX8_leave_X8_fails
set_option maxRecDepth 20000 in
theorem ggX8_leave_X8_keeps : GoodIn wsX8_leave wsX8_keeps := goodIn_ca (goodIn_r _ [19, 14, 20, 21, 22, 23, 24, 5, 25, 26, 27, 28, 29, 30, 31, 32, 33, 34, 35, 36, 37, 38, 39, 40, 41, 42, 43, 44] (by decide +kernel) (by decide +kernel)) (goodIn_sub (fun _ h => List.mem_cons_of_mem _ (List.mem_append_right _ h)) (by decide +kernel))
set_option maxRecDepth 20000 in
theorem gX8_leave_X8_keeps : GoodIn wsX8_leave (wsV RX8 85 RX8 yX8_keeps wsX8_keeps) := goodIn_app (goodIn_of _ (by decide +kernel)) ggX8_leave_X8_keeps
theorem dX8_leave_0 : decode cX8_leave 0 = .ok (.aload_n 0, 1) := by decide +kernel
theorem dX8_leave_1 : decode cX8_leave 1 = .ok (.aload_n 0, 1) := by decide +kernel
theorem dX8_leave_2 : decode cX8_leave 2 = .ok (.iload_n 1, 1) := by decide +kernel
theorem dX8_leave_3 : decode cX8_leave 3 = .ok (.invokevirtual 129, 3) := by decide +kernel
theorem dX8_leave_6 : decode cX8_leave 6 = .ok (.ifCond .eq 7, 3) := by decide +kernel
theorem dX8_leave_9 : decode cX8_leave 9 = .ok (.iconst 0, 1) := by decide +kernel
theorem dX8_leave_10 : decode cX8_leave 10 = .ok (.goto 4, 3) := by decide +kernel
theorem dX8_leave_13 : decode cX8_leave 13 = .ok (.iconst 1, 1) := by decide +kernel
theorem dX8_leave_14 : decode cX8_leave 14 = .ok (.invokevirtual 79, 3) := by decide +kernel
theorem dX8_leave_17 : decode cX8_leave 17 = .ok (.ifCond .eq 5, 3) := by decide +kernel
theorem dX8_leave_20 : decode cX8_leave 20 = .ok (.iconst 0, 1) := by decide +kernel
theorem dX8_leave_21 : decode cX8_leave 21 = .ok (.ireturn, 1) := by decide +kernel
theorem dX8_leave_22 : decode cX8_leave 22 = .ok (.aload_n 0, 1) := by decide +kernel
theorem dX8_leave_23 : decode cX8_leave 23 = .ok (.getfield 7, 3) := by decide +kernel
theorem dX8_leave_26 : decode cX8_leave 26 = .ok (.bipush 11, 2) := by decide +kernel
theorem dX8_leave_28 : decode cX8_leave 28 = .ok (.iload_n 1, 1) := by decide +kernel
theorem dX8_leave_29 : decode cX8_leave 29 = .ok (.iadd, 1) := by decide +kernel
theorem dX8_leave_30 : decode cX8_leave 30 = .ok (.iaload, 1) := by decide +kernel
theorem dX8_leave_31 : decode cX8_leave 31 = .ok (.istore_n 2, 1) := by decide +kernel
theorem dX8_leave_32 : decode cX8_leave 32 = .ok (.aload_n 0, 1) := by decide +kernel
theorem dX8_leave_33 : decode cX8_leave 33 = .ok (.aload_n 0, 1) := by decide +kernel
theorem dX8_leave_34 : decode cX8_leave 34 = .ok (.getfield 7, 3) := by decide +kernel
theorem dX8_leave_37 : decode cX8_leave 37 = .ok (.invokevirtual 85, 3) := by decide +kernel
theorem dX8_leave_40 : decode cX8_leave 40 = .ok (.aload_n 0, 1) := by decide +kernel
theorem dX8_leave_41 : decode cX8_leave 41 = .ok (.getfield 7, 3) := by decide +kernel
theorem dX8_leave_44 : decode cX8_leave 44 = .ok (.bipush 9, 2) := by decide +kernel
theorem dX8_leave_46 : decode cX8_leave 46 = .ok (.dup2, 1) := by decide +kernel
theorem dX8_leave_47 : decode cX8_leave 47 = .ok (.iaload, 1) := by decide +kernel
theorem dX8_leave_48 : decode cX8_leave 48 = .ok (.iconst 1, 1) := by decide +kernel
theorem dX8_leave_49 : decode cX8_leave 49 = .ok (.isub, 1) := by decide +kernel
theorem dX8_leave_50 : decode cX8_leave 50 = .ok (.iastore, 1) := by decide +kernel
theorem dX8_leave_51 : decode cX8_leave 51 = .ok (.iload_n 1, 1) := by decide +kernel
theorem dX8_leave_52 : decode cX8_leave 52 = .ok (.istore_n 3, 1) := by decide +kernel
theorem dX8_leave_53 : decode cX8_leave 53 = .ok (.iload_n 3, 1) := by decide +kernel
theorem dX8_leave_54 : decode cX8_leave 54 = .ok (.aload_n 0, 1) := by decide +kernel
theorem dX8_leave_55 : decode cX8_leave 55 = .ok (.getfield 7, 3) := by decide +kernel
theorem dX8_leave_58 : decode cX8_leave 58 = .ok (.bipush 9, 2) := by decide +kernel
theorem dX8_leave_60 : decode cX8_leave 60 = .ok (.iaload, 1) := by decide +kernel
theorem dX8_leave_61 : decode cX8_leave 61 = .ok (.if_icmp .ge 29, 3) := by decide +kernel
theorem dX8_leave_64 : decode cX8_leave 64 = .ok (.aload_n 0, 1) := by decide +kernel
theorem dX8_leave_65 : decode cX8_leave 65 = .ok (.getfield 7, 3) := by decide +kernel
theorem dX8_leave_68 : decode cX8_leave 68 = .ok (.bipush 11, 2) := by decide +kernel
theorem dX8_leave_70 : decode cX8_leave 70 = .ok (.iload_n 3, 1) := by decide +kernel
theorem dX8_leave_71 : decode cX8_leave 71 = .ok (.iadd, 1) := by decide +kernel
theorem dX8_leave_72 : decode cX8_leave 72 = .ok (.aload_n 0, 1) := by decide +kernel
theorem dX8_leave_73 : decode cX8_leave 73 = .ok (.getfield 7, 3) := by decide +kernel
theorem dX8_leave_76 : decode cX8_leave 76 = .ok (.bipush 11, 2) := by decide +kernel
theorem dX8_leave_78 : decode cX8_leave 78 = .ok (.iload_n 3, 1) := by decide +kernel
theorem dX8_leave_79 : decode cX8_leave 79 = .ok (.iadd, 1) := by decide +kernel
theorem dX8_leave_80 : decode cX8_leave 80 = .ok (.iconst 1, 1) := by decide +kernel
theorem dX8_leave_81 : decode cX8_leave 81 = .ok (.iadd, 1) := by decide +kernel
theorem dX8_leave_82 : decode cX8_leave 82 = .ok (.iaload, 1) := by decide +kernel
theorem dX8_leave_83 : decode cX8_leave 83 = .ok (.iastore, 1) := by decide +kernel
theorem dX8_leave_84 : decode cX8_leave 84 = .ok (.iinc 3 1, 3) := by decide +kernel
theorem dX8_leave_87 : decode cX8_leave 87 = .ok (.goto (-34), 3) := by decide +kernel
theorem dX8_leave_90 : decode cX8_leave 90 = .ok (.aload_n 0, 1) := by decide +kernel
theorem dX8_leave_91 : decode cX8_leave 91 = .ok (.getfield 7, 3) := by decide +kernel
theorem dX8_leave_94 : decode cX8_leave 94 = .ok (.bipush 11, 2) := by decide +kernel
theorem dX8_leave_96 : decode cX8_leave 96 = .ok (.aload_n 0, 1) := by decide +kernel
theorem dX8_leave_97 : decode cX8_leave 97 = .ok (.getfield 7, 3) := by decide +kernel
theorem dX8_leave_100 : decode cX8_leave 100 = .ok (.bipush 9, 2) := by decide +kernel
theorem dX8_leave_102 : decode cX8_leave 102 = .ok (.iaload, 1) := by decide +kernel
theorem dX8_leave_103 : decode cX8_leave 103 = .ok (.iadd, 1) := by decide +kernel
theorem dX8_leave_104 : decode cX8_leave 104 = .ok (.iconst 0, 1) := by decide +kernel
theorem dX8_leave_105 : decode cX8_leave 105 = .ok (.iastore, 1) := by decide +kernel
theorem dX8_leave_106 : decode cX8_leave 106 = .ok (.iload_n 2, 1) := by decide +kernel
theorem dX8_leave_107 : decode cX8_leave 107 = .ok (.ireturn, 1) := by decide +kernel
theorem dX8_its_0 : decode cX8_its 0 = .ok (.aload_n 0, 1) := by decide +kernel
theorem dX8_its_1 : decode cX8_its 1 = .ok (.getfield 7, 3) := by decide +kernel
theorem dX8_its_4 : decode cX8_its 4 = .ok (.bipush 93, 2) := by decide +kernel
theorem dX8_its_6 : decode cX8_its 6 = .ok (.iconst 4, 1) := by decide +kernel
theorem dX8_its_7 : decode cX8_its 7 = .ok (.iload_n 1, 1) := by decide +kernel
theorem dX8_its_8 : decode cX8_its 8 = .ok (.imul, 1) := by decide +kernel
theorem dX8_its_9 : decode cX8_its 9 = .ok (.iadd, 1) := by decide +kernel
theorem dX8_its_10 : decode cX8_its 10 = .ok (.iload_n 2, 1) := by decide +kernel
theorem dX8_its_11 : decode cX8_its 11 = .ok (.iadd, 1) := by decide +kernel
theorem dX8_its_12 : decode cX8_its 12 = .ok (.iaload, 1) := by decide +kernel
theorem dX8_its_13 : decode cX8_its 13 = .ok (.ireturn, 1) := by decide +kernel
set_option maxRecDepth 20000 in
theorem ggX8_isReject_X8_in : GoodIn wsX8_isReject wsX8_in := goodIn_r _ [5] (by decide +kernel) (by decide +kernel)
set_option maxRecDepth 20000 in
theorem gX8_isReject_X8_in : GoodIn wsX8_isReject (va_wsS RX8 71 yX8_in wsX8_in) := goodIn_app (goodIn_of _ (by decide +kernel)) ggX8_isReject_X8_in
theorem dX8_isReject_0 : decode cX8_isReject 0 = .ok (.iload_n 1, 1) := by decide +kernel
theorem dX8_isReject_1 : decode cX8_isReject 1 = .ok (.iconst 0, 1) := by decide +kernel
theorem dX8_isReject_2 : decode cX8_isReject 2 = .ok (.aload_n 0, 1) := by decide +kernel
theorem dX8_isReject_3 : decode cX8_isReject 3 = .ok (.getfield 7, 3) := by decide +kernel
theorem dX8_isReject_6 : decode cX8_isReject 6 = .ok (.bipush 10, 2) := by decide +kernel
theorem dX8_isReject_8 : decode cX8_isReject 8 = .ok (.iaload, 1) := by decide +kernel
theorem dX8_isReject_9 : decode cX8_isReject 9 = .ok (.iconst 1, 1) := by decide +kernel
theorem dX8_isReject_10 : decode cX8_isReject 10 = .ok (.isub, 1) := by decide +kernel
theorem dX8_isReject_11 : decode cX8_isReject 11 = .ok (.invokestatic 71, 3) := by decide +kernel
theorem dX8_isReject_14 : decode cX8_isReject 14 = .ok (.ireturn, 1) := by decide +kernel
set_option maxRecDepth 20000 in
theorem ggX8_worth_X8_its : GoodIn wsX8_worth wsX8_its := goodIn_ca (goodIn_r _ [5, 6, 7, 8, 9, 10, 11, 12, 13, 14, 15, 16, 17, 18, 19, 20, 21, 22, 23, 24, 25] (by decide +kernel) (by decide +kernel)) (goodIn_sub (fun _ h => List.mem_cons_of_mem _ (List.mem_append_right _ h)) (by decide +kernel))
set_option maxRecDepth 20000 in
theorem gX8_worth_X8_its : GoodIn wsX8_worth (wsV RX8 132 RX8 yX8_its wsX8_its) := goodIn_app (goodIn_of _ (by decide +kernel)) ggX8_worth_X8_its
theorem dX8_worth_0 : decode cX8_worth 0 = .ok (.bipush 12, 2) := by decide +kernel
theorem dX8_worth_2 : decode cX8_worth 2 = .ok (.aload_n 0, 1) := by decide +kernel
theorem dX8_worth_3 : decode cX8_worth 3 = .ok (.iload_n 1, 1) := by decide +kernel
theorem dX8_worth_4 : decode cX8_worth 4 = .ok (.iconst 0, 1) := by decide +kernel
theorem dX8_worth_5 : decode cX8_worth 5 = .ok (.invokevirtual 132, 3) := by decide +kernel
theorem dX8_worth_8 : decode cX8_worth 8 = .ok (.isub, 1) := by decide +kernel
theorem dX8_worth_9 : decode cX8_worth 9 = .ok (.aload_n 0, 1) := by decide +kernel
theorem dX8_worth_10 : decode cX8_worth 10 = .ok (.iload_n 1, 1) := by decide +kernel
theorem dX8_worth_11 : decode cX8_worth 11 = .ok (.iconst 3, 1) := by decide +kernel
theorem dX8_worth_12 : decode cX8_worth 12 = .ok (.invokevirtual 132, 3) := by decide +kernel
theorem dX8_worth_15 : decode cX8_worth 15 = .ok (.iconst 2, 1) := by decide +kernel
theorem dX8_worth_16 : decode cX8_worth 16 = .ok (.if_icmp .ne 7, 3) := by decide +kernel
theorem dX8_worth_19 : decode cX8_worth 19 = .ok (.iconst 4, 1) := by decide +kernel
theorem dX8_worth_20 : decode cX8_worth 20 = .ok (.goto 4, 3) := by decide +kernel
theorem dX8_worth_23 : decode cX8_worth 23 = .ok (.iconst 0, 1) := by decide +kernel
theorem dX8_worth_24 : decode cX8_worth 24 = .ok (.iadd, 1) := by decide +kernel
theorem dX8_worth_25 : decode cX8_worth 25 = .ok (.iload_n 2, 1) := by decide +kernel
theorem dX8_worth_26 : decode cX8_worth 26 = .ok (.isub, 1) := by decide +kernel
theorem dX8_worth_27 : decode cX8_worth 27 = .ok (.istore_n 3, 1) := by decide +kernel
theorem dX8_worth_28 : decode cX8_worth 28 = .ok (.iload_n 3, 1) := by decide +kernel
theorem dX8_worth_29 : decode cX8_worth 29 = .ok (.iconst 1, 1) := by decide +kernel
theorem dX8_worth_30 : decode cX8_worth 30 = .ok (.if_icmp .ge 7, 3) := by decide +kernel
theorem dX8_worth_33 : decode cX8_worth 33 = .ok (.iconst 1, 1) := by decide +kernel
theorem dX8_worth_34 : decode cX8_worth 34 = .ok (.goto 4, 3) := by decide +kernel
theorem dX8_worth_37 : decode cX8_worth 37 = .ok (.iload_n 3, 1) := by decide +kernel
theorem dX8_worth_38 : decode cX8_worth 38 = .ok (.ireturn, 1) := by decide +kernel
theorem dX8_leavesShelf_0 : decode cX8_leavesShelf 0 = .ok (.aload_n 0, 1) := by decide +kernel
theorem dX8_leavesShelf_1 : decode cX8_leavesShelf 1 = .ok (.getfield 7, 3) := by decide +kernel
theorem dX8_leavesShelf_4 : decode cX8_leavesShelf 4 = .ok (.bipush 10, 2) := by decide +kernel
theorem dX8_leavesShelf_6 : decode cX8_leavesShelf 6 = .ok (.dup2, 1) := by decide +kernel
theorem dX8_leavesShelf_7 : decode cX8_leavesShelf 7 = .ok (.iaload, 1) := by decide +kernel
theorem dX8_leavesShelf_8 : decode cX8_leavesShelf 8 = .ok (.iconst 1, 1) := by decide +kernel
theorem dX8_leavesShelf_9 : decode cX8_leavesShelf 9 = .ok (.isub, 1) := by decide +kernel
theorem dX8_leavesShelf_10 : decode cX8_leavesShelf 10 = .ok (.iastore, 1) := by decide +kernel
theorem dX8_leavesShelf_11 : decode cX8_leavesShelf 11 = .ok (.bipush 93, 2) := by decide +kernel
theorem dX8_leavesShelf_13 : decode cX8_leavesShelf 13 = .ok (.iconst 4, 1) := by decide +kernel
theorem dX8_leavesShelf_14 : decode cX8_leavesShelf 14 = .ok (.iload_n 1, 1) := by decide +kernel
theorem dX8_leavesShelf_15 : decode cX8_leavesShelf 15 = .ok (.imul, 1) := by decide +kernel
theorem dX8_leavesShelf_16 : decode cX8_leavesShelf 16 = .ok (.iadd, 1) := by decide +kernel
theorem dX8_leavesShelf_17 : decode cX8_leavesShelf 17 = .ok (.istore_n 2, 1) := by decide +kernel
theorem dX8_leavesShelf_18 : decode cX8_leavesShelf 18 = .ok (.iload_n 2, 1) := by decide +kernel
theorem dX8_leavesShelf_19 : decode cX8_leavesShelf 19 = .ok (.bipush 93, 2) := by decide +kernel
theorem dX8_leavesShelf_21 : decode cX8_leavesShelf 21 = .ok (.iconst 4, 1) := by decide +kernel
theorem dX8_leavesShelf_22 : decode cX8_leavesShelf 22 = .ok (.aload_n 0, 1) := by decide +kernel
theorem dX8_leavesShelf_23 : decode cX8_leavesShelf 23 = .ok (.getfield 7, 3) := by decide +kernel
theorem dX8_leavesShelf_26 : decode cX8_leavesShelf 26 = .ok (.bipush 10, 2) := by decide +kernel
theorem dX8_leavesShelf_28 : decode cX8_leavesShelf 28 = .ok (.iaload, 1) := by decide +kernel
theorem dX8_leavesShelf_29 : decode cX8_leavesShelf 29 = .ok (.imul, 1) := by decide +kernel
theorem dX8_leavesShelf_30 : decode cX8_leavesShelf 30 = .ok (.iadd, 1) := by decide +kernel
theorem dX8_leavesShelf_31 : decode cX8_leavesShelf 31 = .ok (.if_icmp .ge 23, 3) := by decide +kernel
theorem dX8_leavesShelf_34 : decode cX8_leavesShelf 34 = .ok (.aload_n 0, 1) := by decide +kernel
theorem dX8_leavesShelf_35 : decode cX8_leavesShelf 35 = .ok (.getfield 7, 3) := by decide +kernel
theorem dX8_leavesShelf_38 : decode cX8_leavesShelf 38 = .ok (.iload_n 2, 1) := by decide +kernel
theorem dX8_leavesShelf_39 : decode cX8_leavesShelf 39 = .ok (.aload_n 0, 1) := by decide +kernel
theorem dX8_leavesShelf_40 : decode cX8_leavesShelf 40 = .ok (.getfield 7, 3) := by decide +kernel
theorem dX8_leavesShelf_43 : decode cX8_leavesShelf 43 = .ok (.iload_n 2, 1) := by decide +kernel
theorem dX8_leavesShelf_44 : decode cX8_leavesShelf 44 = .ok (.iconst 4, 1) := by decide +kernel
theorem dX8_leavesShelf_45 : decode cX8_leavesShelf 45 = .ok (.iadd, 1) := by decide +kernel
theorem dX8_leavesShelf_46 : decode cX8_leavesShelf 46 = .ok (.iaload, 1) := by decide +kernel
theorem dX8_leavesShelf_47 : decode cX8_leavesShelf 47 = .ok (.iastore, 1) := by decide +kernel
theorem dX8_leavesShelf_48 : decode cX8_leavesShelf 48 = .ok (.iinc 2 1, 3) := by decide +kernel
theorem dX8_leavesShelf_51 : decode cX8_leavesShelf 51 = .ok (.goto (-33), 3) := by decide +kernel
theorem dX8_leavesShelf_54 : decode cX8_leavesShelf 54 = .ok (.iconst 0, 1) := by decide +kernel
theorem dX8_leavesShelf_55 : decode cX8_leavesShelf 55 = .ok (.istore_n 2, 1) := by decide +kernel
theorem dX8_leavesShelf_56 : decode cX8_leavesShelf 56 = .ok (.iload_n 2, 1) := by decide +kernel
theorem dX8_leavesShelf_57 : decode cX8_leavesShelf 57 = .ok (.iconst 4, 1) := by decide +kernel
theorem dX8_leavesShelf_58 : decode cX8_leavesShelf 58 = .ok (.if_icmp .ge 29, 3) := by decide +kernel
theorem dX8_leavesShelf_61 : decode cX8_leavesShelf 61 = .ok (.aload_n 0, 1) := by decide +kernel
theorem dX8_leavesShelf_62 : decode cX8_leavesShelf 62 = .ok (.getfield 7, 3) := by decide +kernel
theorem dX8_leavesShelf_65 : decode cX8_leavesShelf 65 = .ok (.bipush 93, 2) := by decide +kernel
theorem dX8_leavesShelf_67 : decode cX8_leavesShelf 67 = .ok (.iconst 4, 1) := by decide +kernel
theorem dX8_leavesShelf_68 : decode cX8_leavesShelf 68 = .ok (.aload_n 0, 1) := by decide +kernel
theorem dX8_leavesShelf_69 : decode cX8_leavesShelf 69 = .ok (.getfield 7, 3) := by decide +kernel
theorem dX8_leavesShelf_72 : decode cX8_leavesShelf 72 = .ok (.bipush 10, 2) := by decide +kernel
theorem dX8_leavesShelf_74 : decode cX8_leavesShelf 74 = .ok (.iaload, 1) := by decide +kernel
theorem dX8_leavesShelf_75 : decode cX8_leavesShelf 75 = .ok (.imul, 1) := by decide +kernel
theorem dX8_leavesShelf_76 : decode cX8_leavesShelf 76 = .ok (.iadd, 1) := by decide +kernel
theorem dX8_leavesShelf_77 : decode cX8_leavesShelf 77 = .ok (.iload_n 2, 1) := by decide +kernel
theorem dX8_leavesShelf_78 : decode cX8_leavesShelf 78 = .ok (.iadd, 1) := by decide +kernel
theorem dX8_leavesShelf_79 : decode cX8_leavesShelf 79 = .ok (.iconst 0, 1) := by decide +kernel
theorem dX8_leavesShelf_80 : decode cX8_leavesShelf 80 = .ok (.iastore, 1) := by decide +kernel
theorem dX8_leavesShelf_81 : decode cX8_leavesShelf 81 = .ok (.iinc 2 1, 3) := by decide +kernel
theorem dX8_leavesShelf_84 : decode cX8_leavesShelf 84 = .ok (.goto (-28), 3) := by decide +kernel
theorem dX8_leavesShelf_87 : decode cX8_leavesShelf 87 = .ok (.return_, 1) := by decide +kernel
set_option maxRecDepth 20000 in
theorem ggX8_sell_X8_isReject : GoodIn wsX8_sell wsX8_isReject := goodIn_ca (goodIn_r _ [6, 1, 7, 8, 5, 9, 38, 39, 40, 41, 42, 43, 44, 45, 46, 47, 48, 49, 50, 51, 52, 53, 54, 55, 56] (by decide +kernel) (by decide +kernel)) (goodIn_sub (fun _ h => List.mem_cons_of_mem _ (List.mem_append_right _ h)) (by decide +kernel))
set_option maxRecDepth 20000 in
theorem gX8_sell_X8_isReject : GoodIn wsX8_sell (wsV RX8 135 RX8 yX8_isReject wsX8_isReject) := goodIn_app (goodIn_of _ (by decide +kernel)) ggX8_sell_X8_isReject
set_option maxRecDepth 20000 in
theorem ggX8_sell_X8_fails : GoodIn wsX8_sell wsX8_fails := goodIn_r _ [13, 14, 15, 38, 39, 40, 41, 42, 43, 44, 45, 46, 47, 48, 49, 50, 51, 52, 53, 54, 55, 56] (by decide +kernel) (by decide +kernel)
set_option maxRecDepth 20000 in
theorem gX8_sell_X8_fails : GoodIn wsX8_sell (wsV RX8 79 RX8 yX8_fails wsX8_fails) := goodIn_app (goodIn_of _ (by decide +kernel)) ggX8_sell_X8_fails
set_option maxRecDepth 20000 in
theorem ggX8_sell_X8_keeps : GoodIn wsX8_sell wsX8_keeps := goodIn_ca (goodIn_r _ [19, 14, 20, 21, 22, 23, 24, 5, 25, 38, 39, 40, 41, 42, 43, 44, 45, 46, 47, 48, 49, 50, 51, 52, 53, 54, 55, 56] (by decide +kernel) (by decide +kernel)) (goodIn_sub (fun _ h => List.mem_cons_of_mem _ (List.mem_append_right _ h)) (by decide +kernel))
set_option maxRecDepth 20000 in
theorem gX8_sell_X8_keeps : GoodIn wsX8_sell (wsV RX8 85 RX8 yX8_keeps wsX8_keeps) := goodIn_app (goodIn_of _ (by decide +kernel)) ggX8_sell_X8_keeps
set_option maxRecDepth 20000 in
theorem ggX8_sell_X8_worth : GoodIn wsX8_sell wsX8_worth := goodIn_ca (goodIn_r _ [29, 30, 31, 32, 5, 33, 1, 38, 39, 40, 41, 42, 43, 44, 45, 46, 47, 48, 49, 50, 51, 52, 53, 54, 55, 56] (by decide +kernel) (by decide +kernel)) (goodIn_sub (fun _ h => List.mem_cons_of_mem _ (List.mem_append_right _ h)) (by decide +kernel))
set_option maxRecDepth 20000 in
theorem gX8_sell_X8_worth : GoodIn wsX8_sell (wsV RX8 138 RX8 yX8_worth wsX8_worth) := goodIn_app (goodIn_of _ (by decide +kernel)) ggX8_sell_X8_worth
set_option maxRecDepth 20000 in
theorem ggX8_sell_X8_leavesShelf : GoodIn wsX8_sell wsX8_leavesShelf := goodIn_ca (goodIn_r _ [37, 1, 38, 39, 40, 41, 42, 43, 44, 45, 46, 47, 48, 49, 50, 51, 52, 53, 54, 55, 56] (by decide +kernel) (by decide +kernel)) (goodIn_sub (fun _ h => List.mem_cons_of_mem _ (List.mem_append_right _ h)) (by decide +kernel))
set_option maxRecDepth 20000 in
theorem gX8_sell_X8_leavesShelf : GoodIn wsX8_sell (wsV RX8 141 RX8 yX8_leavesShelf wsX8_leavesShelf) := goodIn_app (goodIn_of _ (by decide +kernel)) ggX8_sell_X8_leavesShelf
theorem dX8_sell_0 : decode cX8_sell 0 = .ok (.aload_n 0, 1) := by decide +kernel
theorem dX8_sell_1 : decode cX8_sell 1 = .ok (.aload_n 0, 1) := by decide +kernel
theorem dX8_sell_2 : decode cX8_sell 2 = .ok (.iload_n 1, 1) := by decide +kernel
theorem dX8_sell_3 : decode cX8_sell 3 = .ok (.invokevirtual 135, 3) := by decide +kernel
theorem dX8_sell_6 : decode cX8_sell 6 = .ok (.ifCond .eq 7, 3) := by decide +kernel
theorem dX8_sell_9 : decode cX8_sell 9 = .ok (.iconst 0, 1) := by decide +kernel
theorem dX8_sell_10 : decode cX8_sell 10 = .ok (.goto 4, 3) := by decide +kernel
theorem dX8_sell_13 : decode cX8_sell 13 = .ok (.iconst 1, 1) := by decide +kernel
theorem dX8_sell_14 : decode cX8_sell 14 = .ok (.invokevirtual 79, 3) := by decide +kernel
theorem dX8_sell_17 : decode cX8_sell 17 = .ok (.ifCond .eq 5, 3) := by decide +kernel
theorem dX8_sell_20 : decode cX8_sell 20 = .ok (.iconst 0, 1) := by decide +kernel
theorem dX8_sell_21 : decode cX8_sell 21 = .ok (.ireturn, 1) := by decide +kernel
theorem dX8_sell_22 : decode cX8_sell 22 = .ok (.aload_n 0, 1) := by decide +kernel
theorem dX8_sell_23 : decode cX8_sell 23 = .ok (.aload_n 0, 1) := by decide +kernel
theorem dX8_sell_24 : decode cX8_sell 24 = .ok (.getfield 7, 3) := by decide +kernel
theorem dX8_sell_27 : decode cX8_sell 27 = .ok (.invokevirtual 85, 3) := by decide +kernel
theorem dX8_sell_30 : decode cX8_sell 30 = .ok (.aload_n 0, 1) := by decide +kernel
theorem dX8_sell_31 : decode cX8_sell 31 = .ok (.iload_n 1, 1) := by decide +kernel
theorem dX8_sell_32 : decode cX8_sell 32 = .ok (.aload_n 0, 1) := by decide +kernel
theorem dX8_sell_33 : decode cX8_sell 33 = .ok (.getfield 7, 3) := by decide +kernel
theorem dX8_sell_36 : decode cX8_sell 36 = .ok (.bipush 7, 2) := by decide +kernel
theorem dX8_sell_38 : decode cX8_sell 38 = .ok (.iaload, 1) := by decide +kernel
theorem dX8_sell_39 : decode cX8_sell 39 = .ok (.invokevirtual 138, 3) := by decide +kernel
theorem dX8_sell_42 : decode cX8_sell 42 = .ok (.istore_n 2, 1) := by decide +kernel
theorem dX8_sell_43 : decode cX8_sell 43 = .ok (.aload_n 0, 1) := by decide +kernel
theorem dX8_sell_44 : decode cX8_sell 44 = .ok (.iload_n 1, 1) := by decide +kernel
theorem dX8_sell_45 : decode cX8_sell 45 = .ok (.invokevirtual 141, 3) := by decide +kernel
theorem dX8_sell_48 : decode cX8_sell 48 = .ok (.aload_n 0, 1) := by decide +kernel
theorem dX8_sell_49 : decode cX8_sell 49 = .ok (.getfield 7, 3) := by decide +kernel
theorem dX8_sell_52 : decode cX8_sell 52 = .ok (.iconst 0, 1) := by decide +kernel
theorem dX8_sell_53 : decode cX8_sell 53 = .ok (.dup2, 1) := by decide +kernel
theorem dX8_sell_54 : decode cX8_sell 54 = .ok (.iaload, 1) := by decide +kernel
theorem dX8_sell_55 : decode cX8_sell 55 = .ok (.iload_n 2, 1) := by decide +kernel
theorem dX8_sell_56 : decode cX8_sell 56 = .ok (.iadd, 1) := by decide +kernel
theorem dX8_sell_57 : decode cX8_sell 57 = .ok (.iastore, 1) := by decide +kernel
theorem dX8_sell_58 : decode cX8_sell 58 = .ok (.aload_n 0, 1) := by decide +kernel
theorem dX8_sell_59 : decode cX8_sell 59 = .ok (.getfield 7, 3) := by decide +kernel
theorem dX8_sell_62 : decode cX8_sell 62 = .ok (.bipush 6, 2) := by decide +kernel
theorem dX8_sell_64 : decode cX8_sell 64 = .ok (.dup2, 1) := by decide +kernel
theorem dX8_sell_65 : decode cX8_sell 65 = .ok (.iaload, 1) := by decide +kernel
theorem dX8_sell_66 : decode cX8_sell 66 = .ok (.iconst 1, 1) := by decide +kernel
theorem dX8_sell_67 : decode cX8_sell 67 = .ok (.iadd, 1) := by decide +kernel
theorem dX8_sell_68 : decode cX8_sell 68 = .ok (.iastore, 1) := by decide +kernel
theorem dX8_sell_69 : decode cX8_sell 69 = .ok (.aload_n 0, 1) := by decide +kernel
theorem dX8_sell_70 : decode cX8_sell 70 = .ok (.getfield 7, 3) := by decide +kernel
theorem dX8_sell_73 : decode cX8_sell 73 = .ok (.bipush 7, 2) := by decide +kernel
theorem dX8_sell_75 : decode cX8_sell 75 = .ok (.dup2, 1) := by decide +kernel
theorem dX8_sell_76 : decode cX8_sell 76 = .ok (.iaload, 1) := by decide +kernel
theorem dX8_sell_77 : decode cX8_sell 77 = .ok (.iconst 1, 1) := by decide +kernel
theorem dX8_sell_78 : decode cX8_sell 78 = .ok (.iadd, 1) := by decide +kernel
theorem dX8_sell_79 : decode cX8_sell 79 = .ok (.iastore, 1) := by decide +kernel
theorem dX8_sell_80 : decode cX8_sell 80 = .ok (.iload_n 2, 1) := by decide +kernel
theorem dX8_sell_81 : decode cX8_sell 81 = .ok (.ireturn, 1) := by decide +kernel
set_option maxRecDepth 20000 in
theorem ggX8_cost_X8_its : GoodIn wsX8_cost wsX8_its := goodIn_ca (goodIn_r _ [5, 6, 7, 8, 9, 10, 11, 12, 13, 14, 15, 16, 17, 18, 19, 20, 21, 22, 23, 24, 25] (by decide +kernel) (by decide +kernel)) (goodIn_sub (fun _ h => List.mem_cons_of_mem _ (List.mem_append_right _ h)) (by decide +kernel))
set_option maxRecDepth 20000 in
theorem gX8_cost_X8_its : GoodIn wsX8_cost (wsV RX8 132 RX8 yX8_its wsX8_its) := goodIn_app (goodIn_of _ (by decide +kernel)) ggX8_cost_X8_its
theorem dX8_cost_0 : decode cX8_cost 0 = .ok (.iconst 2, 1) := by decide +kernel
theorem dX8_cost_1 : decode cX8_cost 1 = .ok (.aload_n 0, 1) := by decide +kernel
theorem dX8_cost_2 : decode cX8_cost 2 = .ok (.iload_n 1, 1) := by decide +kernel
theorem dX8_cost_3 : decode cX8_cost 3 = .ok (.iconst 2, 1) := by decide +kernel
theorem dX8_cost_4 : decode cX8_cost 4 = .ok (.invokevirtual 132, 3) := by decide +kernel
theorem dX8_cost_7 : decode cX8_cost 7 = .ok (.iadd, 1) := by decide +kernel
theorem dX8_cost_8 : decode cX8_cost 8 = .ok (.ireturn, 1) := by decide +kernel
set_option maxRecDepth 20000 in
theorem ggX8_repair_X8_isReject : GoodIn wsX8_repair wsX8_isReject := goodIn_ca (goodIn_r _ [6, 1, 7, 8, 5, 9, 59, 60, 61, 62, 63, 64, 65, 66, 67, 68, 69, 70, 71, 72, 73, 74, 75, 76, 77] (by decide +kernel) (by decide +kernel)) (goodIn_sub (fun _ h => List.mem_cons_of_mem _ (List.mem_append_right _ h)) (by decide +kernel))
set_option maxRecDepth 20000 in
theorem gX8_repair_X8_isReject : GoodIn wsX8_repair (wsV RX8 135 RX8 yX8_isReject wsX8_isReject) := goodIn_app (goodIn_of _ (by decide +kernel)) ggX8_repair_X8_isReject
set_option maxRecDepth 20000 in
theorem ggX8_repair_X8_fails : GoodIn wsX8_repair wsX8_fails := goodIn_r _ [13, 14, 15, 59, 60, 61, 62, 63, 64, 65, 66, 67, 68, 69, 70, 71, 72, 73, 74, 75, 76, 77] (by decide +kernel) (by decide +kernel)
set_option maxRecDepth 20000 in
theorem gX8_repair_X8_fails : GoodIn wsX8_repair (wsV RX8 79 RX8 yX8_fails wsX8_fails) := goodIn_app (goodIn_of _ (by decide +kernel)) ggX8_repair_X8_fails
set_option maxRecDepth 20000 in
theorem ggX8_repair_X8_of : GoodIn wsX8_repair wsX8_of := goodIn_ca (goodIn_r _ [19, 1, 59, 60, 61, 62, 63, 64, 65, 66, 67, 68, 69, 70, 71, 72, 73, 74, 75, 76, 77] (by decide +kernel) (by decide +kernel)) (goodIn_sub (fun _ h => List.mem_cons_of_mem _ (List.mem_append_right _ h)) (by decide +kernel))
set_option maxRecDepth 20000 in
theorem gX8_repair_X8_of : GoodIn wsX8_repair (wsV RX8 63 RX8 yX8_of wsX8_of) := goodIn_app (goodIn_of _ (by decide +kernel)) ggX8_repair_X8_of
set_option maxRecDepth 20000 in
theorem ggX8_repair_X8_refuses : GoodIn wsX8_repair wsX8_refuses := goodIn_r _ [23, 14, 15, 24, 25, 59, 60, 61, 62, 63, 64, 65, 66, 67, 68, 69, 70, 71, 72, 73, 74, 75, 76, 77] (by decide +kernel) (by decide +kernel)
set_option maxRecDepth 20000 in
theorem gX8_repair_X8_refuses : GoodIn wsX8_repair (wsV RX8 82 RX8 yX8_refuses wsX8_refuses) := goodIn_app (goodIn_of _ (by decide +kernel)) ggX8_repair_X8_refuses
set_option maxRecDepth 20000 in
theorem ggX8_repair_X8_cost : GoodIn wsX8_repair wsX8_cost := goodIn_ca (goodIn_r _ [29, 30, 31, 32, 5, 33, 1, 59, 60, 61, 62, 63, 64, 65, 66, 67, 68, 69, 70, 71, 72, 73, 74, 75, 76, 77] (by decide +kernel) (by decide +kernel)) (goodIn_sub (fun _ h => List.mem_cons_of_mem _ (List.mem_append_right _ h)) (by decide +kernel))
set_option maxRecDepth 20000 in
theorem gX8_repair_X8_cost : GoodIn wsX8_repair (wsV RX8 144 RX8 yX8_cost wsX8_cost) := goodIn_app (goodIn_of _ (by decide +kernel)) ggX8_repair_X8_cost
set_option maxRecDepth 20000 in
theorem ggX8_repair_X8_keeps : GoodIn wsX8_repair wsX8_keeps := goodIn_ca (goodIn_r _ [37, 14, 38, 39, 40, 41, 42, 5, 43, 59, 60, 61, 62, 63, 64, 65, 66, 67, 68, 69, 70, 71, 72, 73, 74, 75, 76, 77] (by decide +kernel) (by decide +kernel)) (goodIn_sub (fun _ h => List.mem_cons_of_mem _ (List.mem_append_right _ h)) (by decide +kernel))
set_option maxRecDepth 20000 in
theorem gX8_repair_X8_keeps : GoodIn wsX8_repair (wsV RX8 85 RX8 yX8_keeps wsX8_keeps) := goodIn_app (goodIn_of _ (by decide +kernel)) ggX8_repair_X8_keeps
set_option maxRecDepth 20000 in
theorem ggX8_repair_X8_its : GoodIn wsX8_repair wsX8_its := goodIn_ca (goodIn_r _ [33, 1, 59, 60, 61, 62, 63, 64, 65, 66, 67, 68, 69, 70, 71, 72, 73, 74, 75, 76, 77] (by decide +kernel) (by decide +kernel)) (goodIn_sub (fun _ h => List.mem_cons_of_mem _ (List.mem_append_right _ h)) (by decide +kernel))
set_option maxRecDepth 20000 in
theorem gX8_repair_X8_its : GoodIn wsX8_repair (wsV RX8 132 RX8 yX8_its wsX8_its) := goodIn_app (goodIn_of _ (by decide +kernel)) ggX8_repair_X8_its
set_option maxRecDepth 20000 in
theorem ggX8_repair_X8_within : GoodIn wsX8_repair wsX8_within := goodIn_r _ [46] (by decide +kernel) (by decide +kernel)
set_option maxRecDepth 20000 in
theorem gX8_repair_X8_within : GoodIn wsX8_repair (va_wsS RX8 105 yX8_within wsX8_within) := goodIn_app (goodIn_of _ (by decide +kernel)) ggX8_repair_X8_within
set_option maxRecDepth 20000 in
theorem ggX8_repair_X8_puts : GoodIn wsX8_repair wsX8_puts := goodIn_ca (goodIn_r _ [50, 16, 17, 18, 5, 19, 1, 51, 52, 53, 54, 59, 60, 61, 62, 63, 64, 65, 66, 67, 68, 69, 70, 71, 72, 73, 74, 75, 76, 77] (by decide +kernel) (by decide +kernel)) (goodIn_sub (fun _ h => List.mem_cons_of_mem _ (List.mem_append_right _ h)) (by decide +kernel))
set_option maxRecDepth 20000 in
theorem gX8_repair_X8_puts : GoodIn wsX8_repair (wsV RX8 89 RX8 yX8_puts wsX8_puts) := goodIn_app (goodIn_of _ (by decide +kernel)) ggX8_repair_X8_puts
set_option maxRecDepth 20000 in
theorem ggX8_repair_X8_leavesShelf : GoodIn wsX8_repair wsX8_leavesShelf := goodIn_ca (goodIn_r _ [58, 1, 59, 60, 61, 62, 63, 64, 65, 66, 67, 68, 69, 70, 71, 72, 73, 74, 75, 76, 77] (by decide +kernel) (by decide +kernel)) (goodIn_sub (fun _ h => List.mem_cons_of_mem _ (List.mem_append_right _ h)) (by decide +kernel))
set_option maxRecDepth 20000 in
theorem gX8_repair_X8_leavesShelf : GoodIn wsX8_repair (wsV RX8 141 RX8 yX8_leavesShelf wsX8_leavesShelf) := goodIn_app (goodIn_of _ (by decide +kernel)) ggX8_repair_X8_leavesShelf
theorem dX8_repair_0 : decode cX8_repair 0 = .ok (.aload_n 0, 1) := by decide +kernel
theorem dX8_repair_1 : decode cX8_repair 1 = .ok (.aload_n 0, 1) := by decide +kernel
theorem dX8_repair_2 : decode cX8_repair 2 = .ok (.iload_n 1, 1) := by decide +kernel
theorem dX8_repair_3 : decode cX8_repair 3 = .ok (.invokevirtual 135, 3) := by decide +kernel
theorem dX8_repair_6 : decode cX8_repair 6 = .ok (.ifCond .eq 7, 3) := by decide +kernel
theorem dX8_repair_9 : decode cX8_repair 9 = .ok (.iconst 0, 1) := by decide +kernel
theorem dX8_repair_10 : decode cX8_repair 10 = .ok (.goto 4, 3) := by decide +kernel
theorem dX8_repair_13 : decode cX8_repair 13 = .ok (.iconst 1, 1) := by decide +kernel
theorem dX8_repair_14 : decode cX8_repair 14 = .ok (.invokevirtual 79, 3) := by decide +kernel
theorem dX8_repair_17 : decode cX8_repair 17 = .ok (.ifCond .eq 5, 3) := by decide +kernel
theorem dX8_repair_20 : decode cX8_repair 20 = .ok (.iconst 0, 1) := by decide +kernel
theorem dX8_repair_21 : decode cX8_repair 21 = .ok (.ireturn, 1) := by decide +kernel
theorem dX8_repair_22 : decode cX8_repair 22 = .ok (.aload_n 0, 1) := by decide +kernel
theorem dX8_repair_23 : decode cX8_repair 23 = .ok (.iconst 0, 1) := by decide +kernel
theorem dX8_repair_24 : decode cX8_repair 24 = .ok (.iconst 0, 1) := by decide +kernel
theorem dX8_repair_25 : decode cX8_repair 25 = .ok (.invokevirtual 63, 3) := by decide +kernel
theorem dX8_repair_28 : decode cX8_repair 28 = .ok (.iconst 5, 1) := by decide +kernel
theorem dX8_repair_29 : decode cX8_repair 29 = .ok (.if_icmp .ne 11, 3) := by decide +kernel
theorem dX8_repair_32 : decode cX8_repair 32 = .ok (.aload_n 0, 1) := by decide +kernel
theorem dX8_repair_33 : decode cX8_repair 33 = .ok (.iconst 2, 1) := by decide +kernel
theorem dX8_repair_34 : decode cX8_repair 34 = .ok (.iconst 1, 1) := by decide +kernel
theorem dX8_repair_35 : decode cX8_repair 35 = .ok (.iconst 5, 1) := by decide +kernel
theorem dX8_repair_36 : decode cX8_repair 36 = .ok (.invokevirtual 82, 3) := by decide +kernel
theorem dX8_repair_39 : decode cX8_repair 39 = .ok (.ireturn, 1) := by decide +kernel
theorem dX8_repair_40 : decode cX8_repair 40 = .ok (.aload_n 0, 1) := by decide +kernel
theorem dX8_repair_41 : decode cX8_repair 41 = .ok (.iload_n 1, 1) := by decide +kernel
theorem dX8_repair_42 : decode cX8_repair 42 = .ok (.invokevirtual 144, 3) := by decide +kernel
theorem dX8_repair_45 : decode cX8_repair 45 = .ok (.istore_n 2, 1) := by decide +kernel
theorem dX8_repair_46 : decode cX8_repair 46 = .ok (.aload_n 0, 1) := by decide +kernel
theorem dX8_repair_47 : decode cX8_repair 47 = .ok (.getfield 7, 3) := by decide +kernel
theorem dX8_repair_50 : decode cX8_repair 50 = .ok (.iconst 0, 1) := by decide +kernel
theorem dX8_repair_51 : decode cX8_repair 51 = .ok (.iaload, 1) := by decide +kernel
theorem dX8_repair_52 : decode cX8_repair 52 = .ok (.iload_n 2, 1) := by decide +kernel
theorem dX8_repair_53 : decode cX8_repair 53 = .ok (.if_icmp .ge 18, 3) := by decide +kernel
theorem dX8_repair_56 : decode cX8_repair 56 = .ok (.aload_n 0, 1) := by decide +kernel
theorem dX8_repair_57 : decode cX8_repair 57 = .ok (.iconst 2, 1) := by decide +kernel
theorem dX8_repair_58 : decode cX8_repair 58 = .ok (.iconst 5, 1) := by decide +kernel
theorem dX8_repair_59 : decode cX8_repair 59 = .ok (.iload_n 2, 1) := by decide +kernel
theorem dX8_repair_60 : decode cX8_repair 60 = .ok (.aload_n 0, 1) := by decide +kernel
theorem dX8_repair_61 : decode cX8_repair 61 = .ok (.getfield 7, 3) := by decide +kernel
theorem dX8_repair_64 : decode cX8_repair 64 = .ok (.iconst 0, 1) := by decide +kernel
theorem dX8_repair_65 : decode cX8_repair 65 = .ok (.iaload, 1) := by decide +kernel
theorem dX8_repair_66 : decode cX8_repair 66 = .ok (.isub, 1) := by decide +kernel
theorem dX8_repair_67 : decode cX8_repair 67 = .ok (.invokevirtual 82, 3) := by decide +kernel
theorem dX8_repair_70 : decode cX8_repair 70 = .ok (.ireturn, 1) := by decide +kernel
theorem dX8_repair_71 : decode cX8_repair 71 = .ok (.aload_n 0, 1) := by decide +kernel
theorem dX8_repair_72 : decode cX8_repair 72 = .ok (.aload_n 0, 1) := by decide +kernel
theorem dX8_repair_73 : decode cX8_repair 73 = .ok (.getfield 7, 3) := by decide +kernel
theorem dX8_repair_76 : decode cX8_repair 76 = .ok (.invokevirtual 85, 3) := by decide +kernel
theorem dX8_repair_79 : decode cX8_repair 79 = .ok (.aload_n 0, 1) := by decide +kernel
theorem dX8_repair_80 : decode cX8_repair 80 = .ok (.iconst 0, 1) := by decide +kernel
theorem dX8_repair_81 : decode cX8_repair 81 = .ok (.iconst 0, 1) := by decide +kernel
theorem dX8_repair_82 : decode cX8_repair 82 = .ok (.aload_n 0, 1) := by decide +kernel
theorem dX8_repair_83 : decode cX8_repair 83 = .ok (.iload_n 1, 1) := by decide +kernel
theorem dX8_repair_84 : decode cX8_repair 84 = .ok (.iconst 0, 1) := by decide +kernel
theorem dX8_repair_85 : decode cX8_repair 85 = .ok (.invokevirtual 132, 3) := by decide +kernel
theorem dX8_repair_88 : decode cX8_repair 88 = .ok (.iconst 2, 1) := by decide +kernel
theorem dX8_repair_89 : decode cX8_repair 89 = .ok (.iadd, 1) := by decide +kernel
theorem dX8_repair_90 : decode cX8_repair 90 = .ok (.iconst 0, 1) := by decide +kernel
theorem dX8_repair_91 : decode cX8_repair 91 = .ok (.bipush 9, 2) := by decide +kernel
theorem dX8_repair_93 : decode cX8_repair 93 = .ok (.invokestatic 105, 3) := by decide +kernel
theorem dX8_repair_96 : decode cX8_repair 96 = .ok (.aload_n 0, 1) := by decide +kernel
theorem dX8_repair_97 : decode cX8_repair 97 = .ok (.iload_n 1, 1) := by decide +kernel
theorem dX8_repair_98 : decode cX8_repair 98 = .ok (.iconst 1, 1) := by decide +kernel
theorem dX8_repair_99 : decode cX8_repair 99 = .ok (.invokevirtual 132, 3) := by decide +kernel
theorem dX8_repair_102 : decode cX8_repair 102 = .ok (.iconst 1, 1) := by decide +kernel
theorem dX8_repair_103 : decode cX8_repair 103 = .ok (.isub, 1) := by decide +kernel
theorem dX8_repair_104 : decode cX8_repair 104 = .ok (.iconst 4, 1) := by decide +kernel
theorem dX8_repair_105 : decode cX8_repair 105 = .ok (.bipush 9, 2) := by decide +kernel
theorem dX8_repair_107 : decode cX8_repair 107 = .ok (.invokestatic 105, 3) := by decide +kernel
theorem dX8_repair_110 : decode cX8_repair 110 = .ok (.aload_n 0, 1) := by decide +kernel
theorem dX8_repair_111 : decode cX8_repair 111 = .ok (.iload_n 1, 1) := by decide +kernel
theorem dX8_repair_112 : decode cX8_repair 112 = .ok (.iconst 2, 1) := by decide +kernel
theorem dX8_repair_113 : decode cX8_repair 113 = .ok (.invokevirtual 132, 3) := by decide +kernel
theorem dX8_repair_116 : decode cX8_repair 116 = .ok (.iconst 1, 1) := by decide +kernel
theorem dX8_repair_117 : decode cX8_repair 117 = .ok (.iadd, 1) := by decide +kernel
theorem dX8_repair_118 : decode cX8_repair 118 = .ok (.invokevirtual 89, 3) := by decide +kernel
theorem dX8_repair_121 : decode cX8_repair 121 = .ok (.pop, 1) := by decide +kernel
theorem dX8_repair_122 : decode cX8_repair 122 = .ok (.aload_n 0, 1) := by decide +kernel
theorem dX8_repair_123 : decode cX8_repair 123 = .ok (.iload_n 1, 1) := by decide +kernel
theorem dX8_repair_124 : decode cX8_repair 124 = .ok (.invokevirtual 141, 3) := by decide +kernel
theorem dX8_repair_127 : decode cX8_repair 127 = .ok (.aload_n 0, 1) := by decide +kernel
theorem dX8_repair_128 : decode cX8_repair 128 = .ok (.getfield 7, 3) := by decide +kernel
theorem dX8_repair_131 : decode cX8_repair 131 = .ok (.iconst 0, 1) := by decide +kernel
theorem dX8_repair_132 : decode cX8_repair 132 = .ok (.dup2, 1) := by decide +kernel
theorem dX8_repair_133 : decode cX8_repair 133 = .ok (.iaload, 1) := by decide +kernel
theorem dX8_repair_134 : decode cX8_repair 134 = .ok (.iload_n 2, 1) := by decide +kernel
theorem dX8_repair_135 : decode cX8_repair 135 = .ok (.isub, 1) := by decide +kernel
theorem dX8_repair_136 : decode cX8_repair 136 = .ok (.iastore, 1) := by decide +kernel
theorem dX8_repair_137 : decode cX8_repair 137 = .ok (.aload_n 0, 1) := by decide +kernel
theorem dX8_repair_138 : decode cX8_repair 138 = .ok (.getfield 7, 3) := by decide +kernel
theorem dX8_repair_141 : decode cX8_repair 141 = .ok (.bipush 8, 2) := by decide +kernel
theorem dX8_repair_143 : decode cX8_repair 143 = .ok (.dup2, 1) := by decide +kernel
theorem dX8_repair_144 : decode cX8_repair 144 = .ok (.iaload, 1) := by decide +kernel
theorem dX8_repair_145 : decode cX8_repair 145 = .ok (.iconst 1, 1) := by decide +kernel
theorem dX8_repair_146 : decode cX8_repair 146 = .ok (.iadd, 1) := by decide +kernel
theorem dX8_repair_147 : decode cX8_repair 147 = .ok (.iastore, 1) := by decide +kernel
theorem dX8_repair_148 : decode cX8_repair 148 = .ok (.iload_n 2, 1) := by decide +kernel
theorem dX8_repair_149 : decode cX8_repair 149 = .ok (.ireturn, 1) := by decide +kernel
set_option maxRecDepth 20000 in
theorem ggX8_passesOn_X8_of : GoodIn wsX8_passesOn wsX8_of := goodIn_ca (goodIn_r _ [5, 6, 23, 24, 25, 26, 27, 28, 29, 30, 31, 32, 33, 34, 35, 36, 37, 38, 39, 40, 41] (by decide +kernel) (by decide +kernel)) (goodIn_sub (fun _ h => List.mem_cons_of_mem _ (List.mem_append_right _ h)) (by decide +kernel))
set_option maxRecDepth 20000 in
theorem gX8_passesOn_X8_of : GoodIn wsX8_passesOn (wsV RX8 63 RX8 yX8_of wsX8_of) := goodIn_app (goodIn_of _ (by decide +kernel)) ggX8_passesOn_X8_of
set_option maxRecDepth 20000 in
theorem ggX8_passesOn_X8_on : GoodIn wsX8_passesOn wsX8_on := goodIn_ca (goodIn_r _ [10, 1, 2, 3, 4, 5, 6, 23, 24, 25, 26, 27, 28, 29, 30, 31, 32, 33, 34, 35, 36, 37, 38, 39, 40, 41] (by decide +kernel) (by decide +kernel)) (goodIn_sub (fun _ h => List.mem_cons_of_mem _ (List.mem_append_right _ h)) (by decide +kernel))
set_option maxRecDepth 20000 in
theorem gX8_passesOn_X8_on : GoodIn wsX8_passesOn (wsV RX8 67 RX8 yX8_on wsX8_on) := goodIn_app (goodIn_of _ (by decide +kernel)) ggX8_passesOn_X8_on
set_option maxRecDepth 20000 in
theorem ggX8_passesOn_X8_puts : GoodIn wsX8_passesOn wsX8_puts := goodIn_ca (goodIn_r _ [14, 1, 2, 3, 4, 5, 6, 15, 16, 17, 18, 23, 24, 25, 26, 27, 28, 29, 30, 31, 32, 33, 34, 35, 36, 37, 38, 39, 40, 41] (by decide +kernel) (by decide +kernel)) (goodIn_sub (fun _ h => List.mem_cons_of_mem _ (List.mem_append_right _ h)) (by decide +kernel))
set_option maxRecDepth 20000 in
theorem gX8_passesOn_X8_puts : GoodIn wsX8_passesOn (wsV RX8 89 RX8 yX8_puts wsX8_puts) := goodIn_app (goodIn_of _ (by decide +kernel)) ggX8_passesOn_X8_puts
set_option maxRecDepth 20000 in
theorem ggX8_passesOn_X8_goes : GoodIn wsX8_passesOn wsX8_goes := goodIn_ca (goodIn_r _ [22, 1, 2, 3, 4, 5, 6, 15, 16, 17, 18, 23, 24, 25, 26, 27, 28, 29, 30, 31, 32, 33, 34, 35, 36, 37, 38, 39, 40, 41] (by decide +kernel) (by decide +kernel)) (goodIn_sub (fun _ h => List.mem_cons_of_mem _ (List.mem_append_right _ h)) (by decide +kernel))
set_option maxRecDepth 20000 in
theorem gX8_passesOn_X8_goes : GoodIn wsX8_passesOn (wsV RX8 119 RX8 yX8_goes wsX8_goes) := goodIn_app (goodIn_of _ (by decide +kernel)) ggX8_passesOn_X8_goes
theorem dX8_passesOn_0 : decode cX8_passesOn 0 = .ok (.aload_n 0, 1) := by decide +kernel
theorem dX8_passesOn_1 : decode cX8_passesOn 1 = .ok (.iload_n 1, 1) := by decide +kernel
theorem dX8_passesOn_2 : decode cX8_passesOn 2 = .ok (.iconst 0, 1) := by decide +kernel
theorem dX8_passesOn_3 : decode cX8_passesOn 3 = .ok (.invokevirtual 63, 3) := by decide +kernel
theorem dX8_passesOn_6 : decode cX8_passesOn 6 = .ok (.ifCond .ne 4, 3) := by decide +kernel
theorem dX8_passesOn_9 : decode cX8_passesOn 9 = .ok (.return_, 1) := by decide +kernel
theorem dX8_passesOn_10 : decode cX8_passesOn 10 = .ok (.aload_n 0, 1) := by decide +kernel
theorem dX8_passesOn_11 : decode cX8_passesOn 11 = .ok (.iload_n 1, 1) := by decide +kernel
theorem dX8_passesOn_12 : decode cX8_passesOn 12 = .ok (.iconst 1, 1) := by decide +kernel
theorem dX8_passesOn_13 : decode cX8_passesOn 13 = .ok (.iadd, 1) := by decide +kernel
theorem dX8_passesOn_14 : decode cX8_passesOn 14 = .ok (.aload_n 0, 1) := by decide +kernel
theorem dX8_passesOn_15 : decode cX8_passesOn 15 = .ok (.iload_n 1, 1) := by decide +kernel
theorem dX8_passesOn_16 : decode cX8_passesOn 16 = .ok (.iconst 0, 1) := by decide +kernel
theorem dX8_passesOn_17 : decode cX8_passesOn 17 = .ok (.iconst 0, 1) := by decide +kernel
theorem dX8_passesOn_18 : decode cX8_passesOn 18 = .ok (.invokevirtual 67, 3) := by decide +kernel
theorem dX8_passesOn_21 : decode cX8_passesOn 21 = .ok (.aload_n 0, 1) := by decide +kernel
theorem dX8_passesOn_22 : decode cX8_passesOn 22 = .ok (.iload_n 1, 1) := by decide +kernel
theorem dX8_passesOn_23 : decode cX8_passesOn 23 = .ok (.iconst 0, 1) := by decide +kernel
theorem dX8_passesOn_24 : decode cX8_passesOn 24 = .ok (.iconst 1, 1) := by decide +kernel
theorem dX8_passesOn_25 : decode cX8_passesOn 25 = .ok (.invokevirtual 67, 3) := by decide +kernel
theorem dX8_passesOn_28 : decode cX8_passesOn 28 = .ok (.aload_n 0, 1) := by decide +kernel
theorem dX8_passesOn_29 : decode cX8_passesOn 29 = .ok (.iload_n 1, 1) := by decide +kernel
theorem dX8_passesOn_30 : decode cX8_passesOn 30 = .ok (.iconst 0, 1) := by decide +kernel
theorem dX8_passesOn_31 : decode cX8_passesOn 31 = .ok (.iconst 2, 1) := by decide +kernel
theorem dX8_passesOn_32 : decode cX8_passesOn 32 = .ok (.invokevirtual 67, 3) := by decide +kernel
theorem dX8_passesOn_35 : decode cX8_passesOn 35 = .ok (.aload_n 0, 1) := by decide +kernel
theorem dX8_passesOn_36 : decode cX8_passesOn 36 = .ok (.iload_n 1, 1) := by decide +kernel
theorem dX8_passesOn_37 : decode cX8_passesOn 37 = .ok (.iconst 0, 1) := by decide +kernel
theorem dX8_passesOn_38 : decode cX8_passesOn 38 = .ok (.iconst 3, 1) := by decide +kernel
theorem dX8_passesOn_39 : decode cX8_passesOn 39 = .ok (.invokevirtual 67, 3) := by decide +kernel
theorem dX8_passesOn_42 : decode cX8_passesOn 42 = .ok (.invokevirtual 89, 3) := by decide +kernel
theorem dX8_passesOn_45 : decode cX8_passesOn 45 = .ok (.pop, 1) := by decide +kernel
theorem dX8_passesOn_46 : decode cX8_passesOn 46 = .ok (.aload_n 0, 1) := by decide +kernel
theorem dX8_passesOn_47 : decode cX8_passesOn 47 = .ok (.iload_n 1, 1) := by decide +kernel
theorem dX8_passesOn_48 : decode cX8_passesOn 48 = .ok (.invokevirtual 119, 3) := by decide +kernel
theorem dX8_passesOn_51 : decode cX8_passesOn 51 = .ok (.return_, 1) := by decide +kernel
set_option maxRecDepth 20000 in
theorem ggX8_week_X8_keeps : GoodIn wsX8_week wsX8_keeps := goodIn_ca (goodIn_r _ [6, 7, 8, 9, 10, 11, 12, 5, 13, 49, 50, 51, 52, 53, 54, 55, 56, 57, 58, 59, 60, 61, 62, 63, 64, 65, 66, 67] (by decide +kernel) (by decide +kernel)) (goodIn_sub (fun _ h => List.mem_cons_of_mem _ (List.mem_append_right _ h)) (by decide +kernel))
set_option maxRecDepth 20000 in
theorem gX8_week_X8_keeps : GoodIn wsX8_week (wsV RX8 85 RX8 yX8_keeps wsX8_keeps) := goodIn_app (goodIn_of _ (by decide +kernel)) ggX8_week_X8_keeps
set_option maxRecDepth 20000 in
theorem ggX8_week_X8_of : GoodIn wsX8_week wsX8_of := goodIn_ca (goodIn_r _ [17, 1, 49, 50, 51, 52, 53, 54, 55, 56, 57, 58, 59, 60, 61, 62, 63, 64, 65, 66, 67] (by decide +kernel) (by decide +kernel)) (goodIn_sub (fun _ h => List.mem_cons_of_mem _ (List.mem_append_right _ h)) (by decide +kernel))
set_option maxRecDepth 20000 in
theorem gX8_week_X8_of : GoodIn wsX8_week (wsV RX8 63 RX8 yX8_of wsX8_of) := goodIn_app (goodIn_of _ (by decide +kernel)) ggX8_week_X8_of
set_option maxRecDepth 20000 in
theorem ggX8_week_X8_isBlank : GoodIn wsX8_week wsX8_isBlank := goodIn_ca (goodIn_r _ [21, 22, 23, 24, 5, 25, 14, 15, 16, 17, 1, 49, 50, 51, 52, 53, 54, 55, 56, 57, 58, 59, 60, 61, 62, 63, 64, 65, 66, 67] (by decide +kernel) (by decide +kernel)) (goodIn_sub (fun _ h => List.mem_cons_of_mem _ (List.mem_append_right _ h)) (by decide +kernel))
set_option maxRecDepth 20000 in
theorem gX8_week_X8_isBlank : GoodIn wsX8_week (wsV RX8 93 RX8 yX8_isBlank wsX8_isBlank) := goodIn_app (goodIn_of _ (by decide +kernel)) ggX8_week_X8_isBlank
set_option maxRecDepth 20000 in
theorem ggX8_week_X8_goes : GoodIn wsX8_week wsX8_goes := goodIn_ca (goodIn_r _ [29, 14, 15, 16, 5, 17, 1, 30, 31, 32, 33, 49, 50, 51, 52, 53, 54, 55, 56, 57, 58, 59, 60, 61, 62, 63, 64, 65, 66, 67] (by decide +kernel) (by decide +kernel)) (goodIn_sub (fun _ h => List.mem_cons_of_mem _ (List.mem_append_right _ h)) (by decide +kernel))
set_option maxRecDepth 20000 in
theorem gX8_week_X8_goes : GoodIn wsX8_week (wsV RX8 119 RX8 yX8_goes wsX8_goes) := goodIn_app (goodIn_of _ (by decide +kernel)) ggX8_week_X8_goes
set_option maxRecDepth 20000 in
theorem ggX8_week_X8_passesOn : GoodIn wsX8_week wsX8_passesOn := goodIn_ca (goodIn_r _ [37, 14, 15, 16, 5, 17, 1, 22, 23, 24, 25, 38, 39, 40, 41, 30, 31, 32, 33, 26, 27, 28, 29, 49, 50, 51, 52, 53, 54, 55, 56, 57, 58, 59, 60, 61, 62, 63, 64, 65, 66, 67] (by decide +kernel) (by decide +kernel)) (goodIn_sub (fun _ h => List.mem_cons_of_mem _ (List.mem_append_right _ h)) (by decide +kernel))
set_option maxRecDepth 20000 in
theorem gX8_week_X8_passesOn : GoodIn wsX8_week (wsV RX8 147 RX8 yX8_passesOn wsX8_passesOn) := goodIn_app (goodIn_of _ (by decide +kernel)) ggX8_week_X8_passesOn
set_option maxRecDepth 20000 in
theorem ggX8_week_X8_tires : GoodIn wsX8_week wsX8_tires := goodIn_ca (goodIn_r _ [45, 1, 46, 47, 5, 48, 49, 50, 51, 52, 53, 54, 55, 56, 57, 58, 59, 60, 61, 62, 63, 64, 65, 66, 67] (by decide +kernel) (by decide +kernel)) (goodIn_sub (fun _ h => List.mem_cons_of_mem _ (List.mem_append_right _ h)) (by decide +kernel))
set_option maxRecDepth 20000 in
theorem gX8_week_X8_tires : GoodIn wsX8_week (wsV RX8 115 RX8 yX8_tires wsX8_tires) := goodIn_app (goodIn_of _ (by decide +kernel)) ggX8_week_X8_tires
theorem dX8_week_0 : decode cX8_week 0 = .ok (.aload_n 0, 1) := by decide +kernel
theorem dX8_week_1 : decode cX8_week 1 = .ok (.aload_n 0, 1) := by decide +kernel
theorem dX8_week_2 : decode cX8_week 2 = .ok (.getfield 7, 3) := by decide +kernel
theorem dX8_week_5 : decode cX8_week 5 = .ok (.invokevirtual 85, 3) := by decide +kernel
theorem dX8_week_8 : decode cX8_week 8 = .ok (.aload_n 0, 1) := by decide +kernel
theorem dX8_week_9 : decode cX8_week 9 = .ok (.iconst 2, 1) := by decide +kernel
theorem dX8_week_10 : decode cX8_week 10 = .ok (.iconst 0, 1) := by decide +kernel
theorem dX8_week_11 : decode cX8_week 11 = .ok (.invokevirtual 63, 3) := by decide +kernel
theorem dX8_week_14 : decode cX8_week 14 = .ok (.ifCond .le 16, 3) := by decide +kernel
theorem dX8_week_17 : decode cX8_week 17 = .ok (.aload_n 0, 1) := by decide +kernel
theorem dX8_week_18 : decode cX8_week 18 = .ok (.iconst 2, 1) := by decide +kernel
theorem dX8_week_19 : decode cX8_week 19 = .ok (.iconst 0, 1) := by decide +kernel
theorem dX8_week_20 : decode cX8_week 20 = .ok (.invokevirtual 93, 3) := by decide +kernel
theorem dX8_week_23 : decode cX8_week 23 = .ok (.ifCond .ne 7, 3) := by decide +kernel
theorem dX8_week_26 : decode cX8_week 26 = .ok (.iconst 1, 1) := by decide +kernel
theorem dX8_week_27 : decode cX8_week 27 = .ok (.goto 4, 3) := by decide +kernel
theorem dX8_week_30 : decode cX8_week 30 = .ok (.iconst 0, 1) := by decide +kernel
theorem dX8_week_31 : decode cX8_week 31 = .ok (.istore_n 1, 1) := by decide +kernel
theorem dX8_week_32 : decode cX8_week 32 = .ok (.aload_n 0, 1) := by decide +kernel
theorem dX8_week_33 : decode cX8_week 33 = .ok (.iconst 2, 1) := by decide +kernel
theorem dX8_week_34 : decode cX8_week 34 = .ok (.iconst 0, 1) := by decide +kernel
theorem dX8_week_35 : decode cX8_week 35 = .ok (.invokevirtual 63, 3) := by decide +kernel
theorem dX8_week_38 : decode cX8_week 38 = .ok (.ifCond .le 8, 3) := by decide +kernel
theorem dX8_week_41 : decode cX8_week 41 = .ok (.aload_n 0, 1) := by decide +kernel
theorem dX8_week_42 : decode cX8_week 42 = .ok (.iconst 2, 1) := by decide +kernel
theorem dX8_week_43 : decode cX8_week 43 = .ok (.invokevirtual 119, 3) := by decide +kernel
theorem dX8_week_46 : decode cX8_week 46 = .ok (.aload_n 0, 1) := by decide +kernel
theorem dX8_week_47 : decode cX8_week 47 = .ok (.iconst 1, 1) := by decide +kernel
theorem dX8_week_48 : decode cX8_week 48 = .ok (.invokevirtual 147, 3) := by decide +kernel
theorem dX8_week_51 : decode cX8_week 51 = .ok (.aload_n 0, 1) := by decide +kernel
theorem dX8_week_52 : decode cX8_week 52 = .ok (.iconst 0, 1) := by decide +kernel
theorem dX8_week_53 : decode cX8_week 53 = .ok (.invokevirtual 147, 3) := by decide +kernel
theorem dX8_week_56 : decode cX8_week 56 = .ok (.iconst 0, 1) := by decide +kernel
theorem dX8_week_57 : decode cX8_week 57 = .ok (.istore_n 2, 1) := by decide +kernel
theorem dX8_week_58 : decode cX8_week 58 = .ok (.iload_n 2, 1) := by decide +kernel
theorem dX8_week_59 : decode cX8_week 59 = .ok (.aload_n 0, 1) := by decide +kernel
theorem dX8_week_60 : decode cX8_week 60 = .ok (.getfield 7, 3) := by decide +kernel
theorem dX8_week_63 : decode cX8_week 63 = .ok (.bipush 9, 2) := by decide +kernel
theorem dX8_week_65 : decode cX8_week 65 = .ok (.iaload, 1) := by decide +kernel
theorem dX8_week_66 : decode cX8_week 66 = .ok (.if_icmp .ge 16, 3) := by decide +kernel
theorem dX8_week_69 : decode cX8_week 69 = .ok (.aload_n 0, 1) := by decide +kernel
theorem dX8_week_70 : decode cX8_week 70 = .ok (.iload_n 2, 1) := by decide +kernel
theorem dX8_week_71 : decode cX8_week 71 = .ok (.bipush (-2), 2) := by decide +kernel
theorem dX8_week_73 : decode cX8_week 73 = .ok (.invokevirtual 115, 3) := by decide +kernel
theorem dX8_week_76 : decode cX8_week 76 = .ok (.iinc 2 1, 3) := by decide +kernel
theorem dX8_week_79 : decode cX8_week 79 = .ok (.goto (-21), 3) := by decide +kernel
theorem dX8_week_82 : decode cX8_week 82 = .ok (.aload_n 0, 1) := by decide +kernel
theorem dX8_week_83 : decode cX8_week 83 = .ok (.getfield 7, 3) := by decide +kernel
theorem dX8_week_86 : decode cX8_week 86 = .ok (.iconst 5, 1) := by decide +kernel
theorem dX8_week_87 : decode cX8_week 87 = .ok (.dup2, 1) := by decide +kernel
theorem dX8_week_88 : decode cX8_week 88 = .ok (.iaload, 1) := by decide +kernel
theorem dX8_week_89 : decode cX8_week 89 = .ok (.iload_n 1, 1) := by decide +kernel
theorem dX8_week_90 : decode cX8_week 90 = .ok (.iadd, 1) := by decide +kernel
theorem dX8_week_91 : decode cX8_week 91 = .ok (.iastore, 1) := by decide +kernel
theorem dX8_week_92 : decode cX8_week 92 = .ok (.aload_n 0, 1) := by decide +kernel
theorem dX8_week_93 : decode cX8_week 93 = .ok (.getfield 7, 3) := by decide +kernel
theorem dX8_week_96 : decode cX8_week 96 = .ok (.bipush 7, 2) := by decide +kernel
theorem dX8_week_98 : decode cX8_week 98 = .ok (.iconst 0, 1) := by decide +kernel
theorem dX8_week_99 : decode cX8_week 99 = .ok (.iastore, 1) := by decide +kernel
theorem dX8_week_100 : decode cX8_week 100 = .ok (.aload_n 0, 1) := by decide +kernel
theorem dX8_week_101 : decode cX8_week 101 = .ok (.getfield 7, 3) := by decide +kernel
theorem dX8_week_104 : decode cX8_week 104 = .ok (.iconst 1, 1) := by decide +kernel
theorem dX8_week_105 : decode cX8_week 105 = .ok (.dup2, 1) := by decide +kernel
theorem dX8_week_106 : decode cX8_week 106 = .ok (.iaload, 1) := by decide +kernel
theorem dX8_week_107 : decode cX8_week 107 = .ok (.iconst 1, 1) := by decide +kernel
theorem dX8_week_108 : decode cX8_week 108 = .ok (.iadd, 1) := by decide +kernel
theorem dX8_week_109 : decode cX8_week 109 = .ok (.iastore, 1) := by decide +kernel
theorem dX8_week_110 : decode cX8_week 110 = .ok (.iload_n 1, 1) := by decide +kernel
theorem dX8_week_111 : decode cX8_week 111 = .ok (.ireturn, 1) := by decide +kernel
set_option maxRecDepth 20000 in
theorem ggX8_blanks_X8_of : GoodIn wsX8_blanks wsX8_of := goodIn_ca (goodIn_r _ [5, 6, 11, 12, 13, 14, 15, 16, 17, 18, 19, 20, 21, 22, 23, 24, 25, 26, 27, 28, 29] (by decide +kernel) (by decide +kernel)) (goodIn_sub (fun _ h => List.mem_cons_of_mem _ (List.mem_append_right _ h)) (by decide +kernel))
set_option maxRecDepth 20000 in
theorem gX8_blanks_X8_of : GoodIn wsX8_blanks (wsV RX8 63 RX8 yX8_of wsX8_of) := goodIn_app (goodIn_of _ (by decide +kernel)) ggX8_blanks_X8_of
set_option maxRecDepth 20000 in
theorem ggX8_blanks_X8_on : GoodIn wsX8_blanks wsX8_on := goodIn_ca (goodIn_r _ [10, 1, 2, 3, 4, 5, 6, 11, 12, 13, 14, 15, 16, 17, 18, 19, 20, 21, 22, 23, 24, 25, 26, 27, 28, 29] (by decide +kernel) (by decide +kernel)) (goodIn_sub (fun _ h => List.mem_cons_of_mem _ (List.mem_append_right _ h)) (by decide +kernel))
set_option maxRecDepth 20000 in
theorem gX8_blanks_X8_on : GoodIn wsX8_blanks (wsV RX8 67 RX8 yX8_on wsX8_on) := goodIn_app (goodIn_of _ (by decide +kernel)) ggX8_blanks_X8_on
theorem dX8_blanks_0 : decode cX8_blanks 0 = .ok (.iconst 0, 1) := by decide +kernel
theorem dX8_blanks_1 : decode cX8_blanks 1 = .ok (.istore_n 2, 1) := by decide +kernel
theorem dX8_blanks_2 : decode cX8_blanks 2 = .ok (.iconst 0, 1) := by decide +kernel
theorem dX8_blanks_3 : decode cX8_blanks 3 = .ok (.istore_n 3, 1) := by decide +kernel
theorem dX8_blanks_4 : decode cX8_blanks 4 = .ok (.iload_n 3, 1) := by decide +kernel
theorem dX8_blanks_5 : decode cX8_blanks 5 = .ok (.aload_n 0, 1) := by decide +kernel
theorem dX8_blanks_6 : decode cX8_blanks 6 = .ok (.iload_n 1, 1) := by decide +kernel
theorem dX8_blanks_7 : decode cX8_blanks 7 = .ok (.iconst 0, 1) := by decide +kernel
theorem dX8_blanks_8 : decode cX8_blanks 8 = .ok (.invokevirtual 63, 3) := by decide +kernel
theorem dX8_blanks_11 : decode cX8_blanks 11 = .ok (.if_icmp .ge 19, 3) := by decide +kernel
theorem dX8_blanks_14 : decode cX8_blanks 14 = .ok (.iload_n 2, 1) := by decide +kernel
theorem dX8_blanks_15 : decode cX8_blanks 15 = .ok (.aload_n 0, 1) := by decide +kernel
theorem dX8_blanks_16 : decode cX8_blanks 16 = .ok (.iload_n 1, 1) := by decide +kernel
theorem dX8_blanks_17 : decode cX8_blanks 17 = .ok (.iload_n 3, 1) := by decide +kernel
theorem dX8_blanks_18 : decode cX8_blanks 18 = .ok (.iconst 0, 1) := by decide +kernel
theorem dX8_blanks_19 : decode cX8_blanks 19 = .ok (.invokevirtual 67, 3) := by decide +kernel
theorem dX8_blanks_22 : decode cX8_blanks 22 = .ok (.iadd, 1) := by decide +kernel
theorem dX8_blanks_23 : decode cX8_blanks 23 = .ok (.istore_n 2, 1) := by decide +kernel
theorem dX8_blanks_24 : decode cX8_blanks 24 = .ok (.iinc 3 1, 3) := by decide +kernel
theorem dX8_blanks_27 : decode cX8_blanks 27 = .ok (.goto (-23), 3) := by decide +kernel
theorem dX8_blanks_30 : decode cX8_blanks 30 = .ok (.iload_n 2, 1) := by decide +kernel
theorem dX8_blanks_31 : decode cX8_blanks 31 = .ok (.ireturn, 1) := by decide +kernel
set_option maxRecDepth 20000 in
theorem ggX8_beltOf_X8_isBelt : GoodIn wsX8_beltOf wsX8_isBelt := goodIn_r _ [4, 5, 6, 3, 7] (by decide +kernel) (by decide +kernel)
set_option maxRecDepth 20000 in
theorem gX8_beltOf_X8_isBelt : GoodIn wsX8_beltOf (va_wsS RX8 75 yX8_isBelt wsX8_isBelt) := goodIn_app (goodIn_of _ (by decide +kernel)) ggX8_beltOf_X8_isBelt
set_option maxRecDepth 20000 in
theorem ggX8_beltOf_X8_in : GoodIn wsX8_beltOf wsX8_in := goodIn_r _ [7] (by decide +kernel) (by decide +kernel)
set_option maxRecDepth 20000 in
theorem gX8_beltOf_X8_in : GoodIn wsX8_beltOf (va_wsS RX8 71 yX8_in wsX8_in) := goodIn_app (goodIn_of _ (by decide +kernel)) ggX8_beltOf_X8_in
set_option maxRecDepth 20000 in
theorem ggX8_beltOf_X8_fails : GoodIn wsX8_beltOf wsX8_fails := goodIn_r _ [11, 12, 13, 27, 28, 29, 30, 31, 32, 33, 34, 35, 36, 37, 38, 39, 40, 41, 42, 43, 44, 45] (by decide +kernel) (by decide +kernel)
set_option maxRecDepth 20000 in
theorem gX8_beltOf_X8_fails : GoodIn wsX8_beltOf (wsV RX8 79 RX8 yX8_fails wsX8_fails) := goodIn_app (goodIn_of _ (by decide +kernel)) ggX8_beltOf_X8_fails
set_option maxRecDepth 20000 in
theorem ggX8_beltOf_X8_of : GoodIn wsX8_beltOf wsX8_of := goodIn_ca (goodIn_r _ [17, 18, 27, 28, 29, 30, 31, 32, 33, 34, 35, 36, 37, 38, 39, 40, 41, 42, 43, 44, 45] (by decide +kernel) (by decide +kernel)) (goodIn_sub (fun _ h => List.mem_cons_of_mem _ (List.mem_append_right _ h)) (by decide +kernel))
set_option maxRecDepth 20000 in
theorem gX8_beltOf_X8_of : GoodIn wsX8_beltOf (wsV RX8 63 RX8 yX8_of wsX8_of) := goodIn_app (goodIn_of _ (by decide +kernel)) ggX8_beltOf_X8_of
set_option maxRecDepth 20000 in
theorem ggX8_beltOf_X8_blanks : GoodIn wsX8_beltOf wsX8_blanks := goodIn_ca (goodIn_r _ [22, 14, 15, 16, 3, 17, 18, 23, 24, 25, 26, 27, 28, 29, 30, 31, 32, 33, 34, 35, 36, 37, 38, 39, 40, 41, 42, 43, 44, 45] (by decide +kernel) (by decide +kernel)) (goodIn_sub (fun _ h => List.mem_cons_of_mem _ (List.mem_append_right _ h)) (by decide +kernel))
set_option maxRecDepth 20000 in
theorem gX8_beltOf_X8_blanks : GoodIn wsX8_beltOf (wsV RX8 150 RX8 yX8_blanks wsX8_blanks) := goodIn_app (goodIn_of _ (by decide +kernel)) ggX8_beltOf_X8_blanks
theorem dX8_beltOf_0 : decode cX8_beltOf 0 = .ok (.aload_n 0, 1) := by decide +kernel
theorem dX8_beltOf_1 : decode cX8_beltOf 1 = .ok (.iload_n 1, 1) := by decide +kernel
theorem dX8_beltOf_2 : decode cX8_beltOf 2 = .ok (.invokestatic 75, 3) := by decide +kernel
theorem dX8_beltOf_5 : decode cX8_beltOf 5 = .ok (.ifCond .ne 7, 3) := by decide +kernel
theorem dX8_beltOf_8 : decode cX8_beltOf 8 = .ok (.iconst 1, 1) := by decide +kernel
theorem dX8_beltOf_9 : decode cX8_beltOf 9 = .ok (.goto 18, 3) := by decide +kernel
theorem dX8_beltOf_12 : decode cX8_beltOf 12 = .ok (.iload_n 2, 1) := by decide +kernel
theorem dX8_beltOf_13 : decode cX8_beltOf 13 = .ok (.iconst 0, 1) := by decide +kernel
theorem dX8_beltOf_14 : decode cX8_beltOf 14 = .ok (.bipush 6, 2) := by decide +kernel
theorem dX8_beltOf_16 : decode cX8_beltOf 16 = .ok (.invokestatic 71, 3) := by decide +kernel
theorem dX8_beltOf_19 : decode cX8_beltOf 19 = .ok (.ifCond .eq 7, 3) := by decide +kernel
theorem dX8_beltOf_22 : decode cX8_beltOf 22 = .ok (.iconst 0, 1) := by decide +kernel
theorem dX8_beltOf_23 : decode cX8_beltOf 23 = .ok (.goto 4, 3) := by decide +kernel
theorem dX8_beltOf_26 : decode cX8_beltOf 26 = .ok (.iconst 2, 1) := by decide +kernel
theorem dX8_beltOf_27 : decode cX8_beltOf 27 = .ok (.invokevirtual 79, 3) := by decide +kernel
theorem dX8_beltOf_30 : decode cX8_beltOf 30 = .ok (.ifCond .eq 5, 3) := by decide +kernel
theorem dX8_beltOf_33 : decode cX8_beltOf 33 = .ok (.iconst 0, 1) := by decide +kernel
theorem dX8_beltOf_34 : decode cX8_beltOf 34 = .ok (.ireturn, 1) := by decide +kernel
theorem dX8_beltOf_35 : decode cX8_beltOf 35 = .ok (.iload_n 2, 1) := by decide +kernel
theorem dX8_beltOf_36 : decode cX8_beltOf 36 = .ok (.ifCond .ne 12, 3) := by decide +kernel
theorem dX8_beltOf_39 : decode cX8_beltOf 39 = .ok (.aload_n 0, 1) := by decide +kernel
theorem dX8_beltOf_40 : decode cX8_beltOf 40 = .ok (.iload_n 1, 1) := by decide +kernel
theorem dX8_beltOf_41 : decode cX8_beltOf 41 = .ok (.iconst 0, 1) := by decide +kernel
theorem dX8_beltOf_42 : decode cX8_beltOf 42 = .ok (.invokevirtual 63, 3) := by decide +kernel
theorem dX8_beltOf_45 : decode cX8_beltOf 45 = .ok (.goto 24, 3) := by decide +kernel
theorem dX8_beltOf_48 : decode cX8_beltOf 48 = .ok (.iload_n 2, 1) := by decide +kernel
theorem dX8_beltOf_49 : decode cX8_beltOf 49 = .ok (.iconst 1, 1) := by decide +kernel
theorem dX8_beltOf_50 : decode cX8_beltOf 50 = .ok (.if_icmp .ne 11, 3) := by decide +kernel
theorem dX8_beltOf_53 : decode cX8_beltOf 53 = .ok (.aload_n 0, 1) := by decide +kernel
theorem dX8_beltOf_54 : decode cX8_beltOf 54 = .ok (.iload_n 1, 1) := by decide +kernel
theorem dX8_beltOf_55 : decode cX8_beltOf 55 = .ok (.invokevirtual 150, 3) := by decide +kernel
theorem dX8_beltOf_58 : decode cX8_beltOf 58 = .ok (.goto 11, 3) := by decide +kernel
theorem dX8_beltOf_61 : decode cX8_beltOf 61 = .ok (.aload_n 0, 1) := by decide +kernel
theorem dX8_beltOf_62 : decode cX8_beltOf 62 = .ok (.iload_n 1, 1) := by decide +kernel
theorem dX8_beltOf_63 : decode cX8_beltOf 63 = .ok (.iload_n 2, 1) := by decide +kernel
theorem dX8_beltOf_64 : decode cX8_beltOf 64 = .ok (.iconst 1, 1) := by decide +kernel
theorem dX8_beltOf_65 : decode cX8_beltOf 65 = .ok (.isub, 1) := by decide +kernel
theorem dX8_beltOf_66 : decode cX8_beltOf 66 = .ok (.invokevirtual 63, 3) := by decide +kernel
theorem dX8_beltOf_69 : decode cX8_beltOf 69 = .ok (.ireturn, 1) := by decide +kernel
set_option maxRecDepth 20000 in
theorem ggX8_carrier_X8_isPlace : GoodIn wsX8_carrier wsX8_isPlace := goodIn_ca (goodIn_r _ [5, 6, 7, 4, 8, 9, 10, 11, 12, 13, 14, 15, 16, 27, 28, 29, 30, 31, 32, 33, 34, 35, 36, 37, 38, 39, 40, 41, 42, 43, 44, 45] (by decide +kernel) (by decide +kernel)) (goodIn_sub (fun _ h => List.mem_cons_of_mem _ (List.mem_append_right _ h)) (by decide +kernel))
set_option maxRecDepth 20000 in
theorem gX8_carrier_X8_isPlace : GoodIn wsX8_carrier (wsV RX8 153 RX8 yX8_isPlace wsX8_isPlace) := goodIn_app (goodIn_of _ (by decide +kernel)) ggX8_carrier_X8_isPlace
set_option maxRecDepth 20000 in
theorem ggX8_carrier_X8_in : GoodIn wsX8_carrier wsX8_in := goodIn_r _ [11] (by decide +kernel) (by decide +kernel)
set_option maxRecDepth 20000 in
theorem gX8_carrier_X8_in : GoodIn wsX8_carrier (va_wsS RX8 71 yX8_in wsX8_in) := goodIn_app (goodIn_of _ (by decide +kernel)) ggX8_carrier_X8_in
set_option maxRecDepth 20000 in
theorem ggX8_carrier_X8_fails : GoodIn wsX8_carrier wsX8_fails := goodIn_r _ [20, 21, 22, 27, 28, 29, 30, 31, 32, 33, 34, 35, 36, 37, 38, 39, 40, 41, 42, 43, 44, 45] (by decide +kernel) (by decide +kernel)
set_option maxRecDepth 20000 in
theorem gX8_carrier_X8_fails : GoodIn wsX8_carrier (wsV RX8 79 RX8 yX8_fails wsX8_fails) := goodIn_app (goodIn_of _ (by decide +kernel)) ggX8_carrier_X8_fails
set_option maxRecDepth 20000 in
theorem ggX8_carrier_X8_on : GoodIn wsX8_carrier wsX8_on := goodIn_ca (goodIn_r _ [26, 12, 13, 14, 4, 15, 16, 27, 28, 29, 30, 31, 32, 33, 34, 35, 36, 37, 38, 39, 40, 41, 42, 43, 44, 45] (by decide +kernel) (by decide +kernel)) (goodIn_sub (fun _ h => List.mem_cons_of_mem _ (List.mem_append_right _ h)) (by decide +kernel))
set_option maxRecDepth 20000 in
theorem gX8_carrier_X8_on : GoodIn wsX8_carrier (wsV RX8 67 RX8 yX8_on wsX8_on) := goodIn_app (goodIn_of _ (by decide +kernel)) ggX8_carrier_X8_on
theorem dX8_carrier_0 : decode cX8_carrier 0 = .ok (.aload_n 0, 1) := by decide +kernel
theorem dX8_carrier_1 : decode cX8_carrier 1 = .ok (.aload_n 0, 1) := by decide +kernel
theorem dX8_carrier_2 : decode cX8_carrier 2 = .ok (.iload_n 1, 1) := by decide +kernel
theorem dX8_carrier_3 : decode cX8_carrier 3 = .ok (.iload_n 2, 1) := by decide +kernel
theorem dX8_carrier_4 : decode cX8_carrier 4 = .ok (.invokevirtual 153, 3) := by decide +kernel
theorem dX8_carrier_7 : decode cX8_carrier 7 = .ok (.ifCond .ne 7, 3) := by decide +kernel
theorem dX8_carrier_10 : decode cX8_carrier 10 = .ok (.iconst 1, 1) := by decide +kernel
theorem dX8_carrier_11 : decode cX8_carrier 11 = .ok (.goto 17, 3) := by decide +kernel
theorem dX8_carrier_14 : decode cX8_carrier 14 = .ok (.iload_n 3, 1) := by decide +kernel
theorem dX8_carrier_15 : decode cX8_carrier 15 = .ok (.iconst 0, 1) := by decide +kernel
theorem dX8_carrier_16 : decode cX8_carrier 16 = .ok (.iconst 3, 1) := by decide +kernel
theorem dX8_carrier_17 : decode cX8_carrier 17 = .ok (.invokestatic 71, 3) := by decide +kernel
theorem dX8_carrier_20 : decode cX8_carrier 20 = .ok (.ifCond .eq 7, 3) := by decide +kernel
theorem dX8_carrier_23 : decode cX8_carrier 23 = .ok (.iconst 0, 1) := by decide +kernel
theorem dX8_carrier_24 : decode cX8_carrier 24 = .ok (.goto 4, 3) := by decide +kernel
theorem dX8_carrier_27 : decode cX8_carrier 27 = .ok (.iconst 2, 1) := by decide +kernel
theorem dX8_carrier_28 : decode cX8_carrier 28 = .ok (.invokevirtual 79, 3) := by decide +kernel
theorem dX8_carrier_31 : decode cX8_carrier 31 = .ok (.ifCond .eq 5, 3) := by decide +kernel
theorem dX8_carrier_34 : decode cX8_carrier 34 = .ok (.iconst 0, 1) := by decide +kernel
theorem dX8_carrier_35 : decode cX8_carrier 35 = .ok (.ireturn, 1) := by decide +kernel
theorem dX8_carrier_36 : decode cX8_carrier 36 = .ok (.aload_n 0, 1) := by decide +kernel
theorem dX8_carrier_37 : decode cX8_carrier 37 = .ok (.iload_n 1, 1) := by decide +kernel
theorem dX8_carrier_38 : decode cX8_carrier 38 = .ok (.iload_n 2, 1) := by decide +kernel
theorem dX8_carrier_39 : decode cX8_carrier 39 = .ok (.iload_n 3, 1) := by decide +kernel
theorem dX8_carrier_40 : decode cX8_carrier 40 = .ok (.invokevirtual 67, 3) := by decide +kernel
theorem dX8_carrier_43 : decode cX8_carrier 43 = .ok (.ireturn, 1) := by decide +kernel
set_option maxRecDepth 20000 in
theorem ggX8_yawns_X8_isInspector : GoodIn wsX8_yawns wsX8_isInspector := goodIn_ca (goodIn_r _ [6, 1, 7, 8, 5, 9, 16, 17, 18, 19, 20, 21, 22, 23, 24, 25, 26, 27, 28, 29, 30, 31, 32, 33, 34] (by decide +kernel) (by decide +kernel)) (goodIn_sub (fun _ h => List.mem_cons_of_mem _ (List.mem_append_right _ h)) (by decide +kernel))
set_option maxRecDepth 20000 in
theorem gX8_yawns_X8_isInspector : GoodIn wsX8_yawns (wsV RX8 129 RX8 yX8_isInspector wsX8_isInspector) := goodIn_app (goodIn_of _ (by decide +kernel)) ggX8_yawns_X8_isInspector
set_option maxRecDepth 20000 in
theorem ggX8_yawns_X8_fails : GoodIn wsX8_yawns wsX8_fails := goodIn_r _ [13, 14, 15, 16, 17, 18, 19, 20, 21, 22, 23, 24, 25, 26, 27, 28, 29, 30, 31, 32, 33, 34] (by decide +kernel) (by decide +kernel)
set_option maxRecDepth 20000 in
theorem gX8_yawns_X8_fails : GoodIn wsX8_yawns (wsV RX8 79 RX8 yX8_fails wsX8_fails) := goodIn_app (goodIn_of _ (by decide +kernel)) ggX8_yawns_X8_fails
theorem dX8_yawns_0 : decode cX8_yawns 0 = .ok (.aload_n 0, 1) := by decide +kernel
theorem dX8_yawns_1 : decode cX8_yawns 1 = .ok (.aload_n 0, 1) := by decide +kernel
theorem dX8_yawns_2 : decode cX8_yawns 2 = .ok (.iload_n 1, 1) := by decide +kernel
theorem dX8_yawns_3 : decode cX8_yawns 3 = .ok (.invokevirtual 129, 3) := by decide +kernel
theorem dX8_yawns_6 : decode cX8_yawns 6 = .ok (.ifCond .eq 7, 3) := by decide +kernel
theorem dX8_yawns_9 : decode cX8_yawns 9 = .ok (.iconst 0, 1) := by decide +kernel
theorem dX8_yawns_10 : decode cX8_yawns 10 = .ok (.goto 4, 3) := by decide +kernel
theorem dX8_yawns_13 : decode cX8_yawns 13 = .ok (.iconst 1, 1) := by decide +kernel
theorem dX8_yawns_14 : decode cX8_yawns 14 = .ok (.invokevirtual 79, 3) := by decide +kernel
theorem dX8_yawns_17 : decode cX8_yawns 17 = .ok (.ifCond .eq 7, 3) := by decide +kernel
theorem dX8_yawns_20 : decode cX8_yawns 20 = .ok (.iconst 0, 1) := by decide +kernel
theorem dX8_yawns_21 : decode cX8_yawns 21 = .ok (.goto 12, 3) := by decide +kernel
theorem dX8_yawns_24 : decode cX8_yawns 24 = .ok (.aload_n 0, 1) := by decide +kernel
theorem dX8_yawns_25 : decode cX8_yawns 25 = .ok (.getfield 7, 3) := by decide +kernel
theorem dX8_yawns_28 : decode cX8_yawns 28 = .ok (.bipush 11, 2) := by decide +kernel
theorem dX8_yawns_30 : decode cX8_yawns 30 = .ok (.iload_n 1, 1) := by decide +kernel
theorem dX8_yawns_31 : decode cX8_yawns 31 = .ok (.iadd, 1) := by decide +kernel
theorem dX8_yawns_32 : decode cX8_yawns 32 = .ok (.iaload, 1) := by decide +kernel
theorem dX8_yawns_33 : decode cX8_yawns 33 = .ok (.ireturn, 1) := by decide +kernel
set_option maxRecDepth 20000 in
theorem ggX8_passes_X8_isPlace : GoodIn wsX8_passes wsX8_isPlace := goodIn_ca (goodIn_r _ [5, 6, 7, 4, 8, 9, 10, 11, 12, 13, 14, 15, 16, 35, 36, 37, 38, 39, 40, 41, 42, 43, 44, 45, 46, 47, 48, 49, 50, 51, 52, 53] (by decide +kernel) (by decide +kernel)) (goodIn_sub (fun _ h => List.mem_cons_of_mem _ (List.mem_append_right _ h)) (by decide +kernel))
set_option maxRecDepth 20000 in
theorem gX8_passes_X8_isPlace : GoodIn wsX8_passes (wsV RX8 153 RX8 yX8_isPlace wsX8_isPlace) := goodIn_app (goodIn_of _ (by decide +kernel)) ggX8_passes_X8_isPlace
set_option maxRecDepth 20000 in
theorem ggX8_passes_X8_in : GoodIn wsX8_passes wsX8_in := goodIn_r _ [11] (by decide +kernel) (by decide +kernel)
set_option maxRecDepth 20000 in
theorem gX8_passes_X8_in : GoodIn wsX8_passes (va_wsS RX8 71 yX8_in wsX8_in) := goodIn_app (goodIn_of _ (by decide +kernel)) ggX8_passes_X8_in
set_option maxRecDepth 20000 in
theorem ggX8_passes_X8_fails : GoodIn wsX8_passes wsX8_fails := goodIn_r _ [20, 21, 22, 35, 36, 37, 38, 39, 40, 41, 42, 43, 44, 45, 46, 47, 48, 49, 50, 51, 52, 53] (by decide +kernel) (by decide +kernel)
set_option maxRecDepth 20000 in
theorem gX8_passes_X8_fails : GoodIn wsX8_passes (wsV RX8 79 RX8 yX8_fails wsX8_fails) := goodIn_app (goodIn_of _ (by decide +kernel)) ggX8_passes_X8_fails
set_option maxRecDepth 20000 in
theorem ggX8_passes_X8_isBlank : GoodIn wsX8_passes wsX8_isBlank := goodIn_ca (goodIn_r _ [26, 27, 28, 29, 4, 30, 12, 13, 14, 15, 16, 35, 36, 37, 38, 39, 40, 41, 42, 43, 44, 45, 46, 47, 48, 49, 50, 51, 52, 53] (by decide +kernel) (by decide +kernel)) (goodIn_sub (fun _ h => List.mem_cons_of_mem _ (List.mem_append_right _ h)) (by decide +kernel))
set_option maxRecDepth 20000 in
theorem gX8_passes_X8_isBlank : GoodIn wsX8_passes (wsV RX8 93 RX8 yX8_isBlank wsX8_isBlank) := goodIn_app (goodIn_of _ (by decide +kernel)) ggX8_passes_X8_isBlank
set_option maxRecDepth 20000 in
theorem ggX8_passes_X8_on : GoodIn wsX8_passes wsX8_on := goodIn_ca (goodIn_r _ [30, 12, 13, 14, 4, 15, 16, 35, 36, 37, 38, 39, 40, 41, 42, 43, 44, 45, 46, 47, 48, 49, 50, 51, 52, 53] (by decide +kernel) (by decide +kernel)) (goodIn_sub (fun _ h => List.mem_cons_of_mem _ (List.mem_append_right _ h)) (by decide +kernel))
set_option maxRecDepth 20000 in
theorem gX8_passes_X8_on : GoodIn wsX8_passes (wsV RX8 67 RX8 yX8_on wsX8_on) := goodIn_app (goodIn_of _ (by decide +kernel)) ggX8_passes_X8_on
set_option maxRecDepth 20000 in
theorem ggX8_passes_X8_isPassed : GoodIn wsX8_passes wsX8_isPassed := goodIn_ca (goodIn_r _ [34, 12, 13, 14, 4, 15, 16, 35, 36, 37, 38, 39, 40, 41, 42, 43, 44, 45, 46, 47, 48, 49, 50, 51, 52, 53] (by decide +kernel) (by decide +kernel)) (goodIn_sub (fun _ h => List.mem_cons_of_mem _ (List.mem_append_right _ h)) (by decide +kernel))
set_option maxRecDepth 20000 in
theorem gX8_passes_X8_isPassed : GoodIn wsX8_passes (wsV RX8 101 RX8 yX8_isPassed wsX8_isPassed) := goodIn_app (goodIn_of _ (by decide +kernel)) ggX8_passes_X8_isPassed
theorem dX8_passes_0 : decode cX8_passes 0 = .ok (.aload_n 0, 1) := by decide +kernel
theorem dX8_passes_1 : decode cX8_passes 1 = .ok (.aload_n 0, 1) := by decide +kernel
theorem dX8_passes_2 : decode cX8_passes 2 = .ok (.iload_n 1, 1) := by decide +kernel
theorem dX8_passes_3 : decode cX8_passes 3 = .ok (.iload_n 2, 1) := by decide +kernel
theorem dX8_passes_4 : decode cX8_passes 4 = .ok (.invokevirtual 153, 3) := by decide +kernel
theorem dX8_passes_7 : decode cX8_passes 7 = .ok (.ifCond .ne 7, 3) := by decide +kernel
theorem dX8_passes_10 : decode cX8_passes 10 = .ok (.iconst 1, 1) := by decide +kernel
theorem dX8_passes_11 : decode cX8_passes 11 = .ok (.goto 17, 3) := by decide +kernel
theorem dX8_passes_14 : decode cX8_passes 14 = .ok (.iload_n 3, 1) := by decide +kernel
theorem dX8_passes_15 : decode cX8_passes 15 = .ok (.iconst 1, 1) := by decide +kernel
theorem dX8_passes_16 : decode cX8_passes 16 = .ok (.iconst 3, 1) := by decide +kernel
theorem dX8_passes_17 : decode cX8_passes 17 = .ok (.invokestatic 71, 3) := by decide +kernel
theorem dX8_passes_20 : decode cX8_passes 20 = .ok (.ifCond .eq 7, 3) := by decide +kernel
theorem dX8_passes_23 : decode cX8_passes 23 = .ok (.iconst 0, 1) := by decide +kernel
theorem dX8_passes_24 : decode cX8_passes 24 = .ok (.goto 4, 3) := by decide +kernel
theorem dX8_passes_27 : decode cX8_passes 27 = .ok (.iconst 2, 1) := by decide +kernel
theorem dX8_passes_28 : decode cX8_passes 28 = .ok (.invokevirtual 79, 3) := by decide +kernel
theorem dX8_passes_31 : decode cX8_passes 31 = .ok (.ifCond .eq 5, 3) := by decide +kernel
theorem dX8_passes_34 : decode cX8_passes 34 = .ok (.iconst 0, 1) := by decide +kernel
theorem dX8_passes_35 : decode cX8_passes 35 = .ok (.ireturn, 1) := by decide +kernel
theorem dX8_passes_36 : decode cX8_passes 36 = .ok (.aload_n 0, 1) := by decide +kernel
theorem dX8_passes_37 : decode cX8_passes 37 = .ok (.iload_n 1, 1) := by decide +kernel
theorem dX8_passes_38 : decode cX8_passes 38 = .ok (.iload_n 2, 1) := by decide +kernel
theorem dX8_passes_39 : decode cX8_passes 39 = .ok (.invokevirtual 93, 3) := by decide +kernel
theorem dX8_passes_42 : decode cX8_passes 42 = .ok (.ifCond .ne 26, 3) := by decide +kernel
theorem dX8_passes_45 : decode cX8_passes 45 = .ok (.aload_n 0, 1) := by decide +kernel
theorem dX8_passes_46 : decode cX8_passes 46 = .ok (.iload_n 1, 1) := by decide +kernel
theorem dX8_passes_47 : decode cX8_passes 47 = .ok (.aload_n 0, 1) := by decide +kernel
theorem dX8_passes_48 : decode cX8_passes 48 = .ok (.iload_n 1, 1) := by decide +kernel
theorem dX8_passes_49 : decode cX8_passes 49 = .ok (.iload_n 2, 1) := by decide +kernel
theorem dX8_passes_50 : decode cX8_passes 50 = .ok (.iconst 1, 1) := by decide +kernel
theorem dX8_passes_51 : decode cX8_passes 51 = .ok (.invokevirtual 67, 3) := by decide +kernel
theorem dX8_passes_54 : decode cX8_passes 54 = .ok (.aload_n 0, 1) := by decide +kernel
theorem dX8_passes_55 : decode cX8_passes 55 = .ok (.iload_n 1, 1) := by decide +kernel
theorem dX8_passes_56 : decode cX8_passes 56 = .ok (.iload_n 2, 1) := by decide +kernel
theorem dX8_passes_57 : decode cX8_passes 57 = .ok (.iconst 2, 1) := by decide +kernel
theorem dX8_passes_58 : decode cX8_passes 58 = .ok (.invokevirtual 67, 3) := by decide +kernel
theorem dX8_passes_61 : decode cX8_passes 61 = .ok (.iload_n 3, 1) := by decide +kernel
theorem dX8_passes_62 : decode cX8_passes 62 = .ok (.invokevirtual 101, 3) := by decide +kernel
theorem dX8_passes_65 : decode cX8_passes 65 = .ok (.ifCond .eq 7, 3) := by decide +kernel
theorem dX8_passes_68 : decode cX8_passes 68 = .ok (.iconst 1, 1) := by decide +kernel
theorem dX8_passes_69 : decode cX8_passes 69 = .ok (.goto 4, 3) := by decide +kernel
theorem dX8_passes_72 : decode cX8_passes 72 = .ok (.iconst 0, 1) := by decide +kernel
theorem dX8_passes_73 : decode cX8_passes 73 = .ok (.ireturn, 1) := by decide +kernel
set_option maxRecDepth 20000 in
theorem ggX8_wouldFail_X8_isPlace : GoodIn wsX8_wouldFail wsX8_isPlace := goodIn_ca (goodIn_r _ [6, 7, 8, 5, 9, 10, 11, 12, 13, 14, 15, 16, 1, 46, 47, 48, 49, 50, 51, 52, 53, 54, 55, 56, 57, 58, 59, 60, 61, 62, 63, 64] (by decide +kernel) (by decide +kernel)) (goodIn_sub (fun _ h => List.mem_cons_of_mem _ (List.mem_append_right _ h)) (by decide +kernel))
set_option maxRecDepth 20000 in
theorem gX8_wouldFail_X8_isPlace : GoodIn wsX8_wouldFail (wsV RX8 153 RX8 yX8_isPlace wsX8_isPlace) := goodIn_app (goodIn_of _ (by decide +kernel)) ggX8_wouldFail_X8_isPlace
set_option maxRecDepth 20000 in
theorem ggX8_wouldFail_X8_fails : GoodIn wsX8_wouldFail wsX8_fails := goodIn_r _ [20, 21, 22, 46, 47, 48, 49, 50, 51, 52, 53, 54, 55, 56, 57, 58, 59, 60, 61, 62, 63, 64] (by decide +kernel) (by decide +kernel)
set_option maxRecDepth 20000 in
theorem gX8_wouldFail_X8_fails : GoodIn wsX8_wouldFail (wsV RX8 79 RX8 yX8_fails wsX8_fails) := goodIn_app (goodIn_of _ (by decide +kernel)) ggX8_wouldFail_X8_fails
set_option maxRecDepth 20000 in
theorem ggX8_wouldFail_X8_nextOne : GoodIn wsX8_wouldFail wsX8_nextOne := goodIn_ca (goodIn_r _ [26, 1, 46, 47, 48, 49, 50, 51, 52, 53, 54, 55, 56, 57, 58, 59, 60, 61, 62, 63, 64] (by decide +kernel) (by decide +kernel)) (goodIn_sub (fun _ h => List.mem_cons_of_mem _ (List.mem_append_right _ h)) (by decide +kernel))
set_option maxRecDepth 20000 in
theorem gX8_wouldFail_X8_nextOne : GoodIn wsX8_wouldFail (wsV RX8 108 RX8 yX8_nextOne wsX8_nextOne) := goodIn_app (goodIn_of _ (by decide +kernel)) ggX8_wouldFail_X8_nextOne
set_option maxRecDepth 20000 in
theorem ggX8_wouldFail_X8_failed : GoodIn wsX8_wouldFail wsX8_failed := goodIn_ca (goodIn_r _ [30, 31, 32, 33, 5, 34, 35, 36, 37, 38, 13, 14, 15, 16, 1, 39, 40, 41, 42, 43, 44, 45, 46, 47, 48, 49, 50, 51, 52, 53, 54, 55, 56, 57, 58, 59, 60, 61, 62, 63, 64] (by decide +kernel) (by decide +kernel)) (goodIn_sub (fun _ h => List.mem_cons_of_mem _ (List.mem_append_right _ h)) (by decide +kernel))
set_option maxRecDepth 20000 in
theorem gX8_wouldFail_X8_failed : GoodIn wsX8_wouldFail (wsV RX8 112 RX8 yX8_failed wsX8_failed) := goodIn_app (goodIn_of _ (by decide +kernel)) ggX8_wouldFail_X8_failed
theorem dX8_wouldFail_0 : decode cX8_wouldFail 0 = .ok (.aload_n 0, 1) := by decide +kernel
theorem dX8_wouldFail_1 : decode cX8_wouldFail 1 = .ok (.aload_n 0, 1) := by decide +kernel
theorem dX8_wouldFail_2 : decode cX8_wouldFail 2 = .ok (.iload_n 1, 1) := by decide +kernel
theorem dX8_wouldFail_3 : decode cX8_wouldFail 3 = .ok (.iload_n 2, 1) := by decide +kernel
theorem dX8_wouldFail_4 : decode cX8_wouldFail 4 = .ok (.invokevirtual 153, 3) := by decide +kernel
theorem dX8_wouldFail_7 : decode cX8_wouldFail 7 = .ok (.ifCond .ne 7, 3) := by decide +kernel
theorem dX8_wouldFail_10 : decode cX8_wouldFail 10 = .ok (.iconst 1, 1) := by decide +kernel
theorem dX8_wouldFail_11 : decode cX8_wouldFail 11 = .ok (.goto 18, 3) := by decide +kernel
theorem dX8_wouldFail_14 : decode cX8_wouldFail 14 = .ok (.aload_n 0, 1) := by decide +kernel
theorem dX8_wouldFail_15 : decode cX8_wouldFail 15 = .ok (.getfield 7, 3) := by decide +kernel
theorem dX8_wouldFail_18 : decode cX8_wouldFail 18 = .ok (.bipush 9, 2) := by decide +kernel
theorem dX8_wouldFail_20 : decode cX8_wouldFail 20 = .ok (.iaload, 1) := by decide +kernel
theorem dX8_wouldFail_21 : decode cX8_wouldFail 21 = .ok (.ifCond .ne 7, 3) := by decide +kernel
theorem dX8_wouldFail_24 : decode cX8_wouldFail 24 = .ok (.iconst 2, 1) := by decide +kernel
theorem dX8_wouldFail_25 : decode cX8_wouldFail 25 = .ok (.goto 4, 3) := by decide +kernel
theorem dX8_wouldFail_28 : decode cX8_wouldFail 28 = .ok (.iconst 0, 1) := by decide +kernel
theorem dX8_wouldFail_29 : decode cX8_wouldFail 29 = .ok (.invokevirtual 79, 3) := by decide +kernel
theorem dX8_wouldFail_32 : decode cX8_wouldFail 32 = .ok (.ifCond .eq 5, 3) := by decide +kernel
theorem dX8_wouldFail_35 : decode cX8_wouldFail 35 = .ok (.iconst 0, 1) := by decide +kernel
theorem dX8_wouldFail_36 : decode cX8_wouldFail 36 = .ok (.ireturn, 1) := by decide +kernel
theorem dX8_wouldFail_37 : decode cX8_wouldFail 37 = .ok (.aload_n 0, 1) := by decide +kernel
theorem dX8_wouldFail_38 : decode cX8_wouldFail 38 = .ok (.iload_n 1, 1) := by decide +kernel
theorem dX8_wouldFail_39 : decode cX8_wouldFail 39 = .ok (.iload_n 2, 1) := by decide +kernel
theorem dX8_wouldFail_40 : decode cX8_wouldFail 40 = .ok (.aload_n 0, 1) := by decide +kernel
theorem dX8_wouldFail_41 : decode cX8_wouldFail 41 = .ok (.getfield 7, 3) := by decide +kernel
theorem dX8_wouldFail_44 : decode cX8_wouldFail 44 = .ok (.bipush 11, 2) := by decide +kernel
theorem dX8_wouldFail_46 : decode cX8_wouldFail 46 = .ok (.aload_n 0, 1) := by decide +kernel
theorem dX8_wouldFail_47 : decode cX8_wouldFail 47 = .ok (.invokevirtual 108, 3) := by decide +kernel
theorem dX8_wouldFail_50 : decode cX8_wouldFail 50 = .ok (.iadd, 1) := by decide +kernel
theorem dX8_wouldFail_51 : decode cX8_wouldFail 51 = .ok (.iaload, 1) := by decide +kernel
theorem dX8_wouldFail_52 : decode cX8_wouldFail 52 = .ok (.invokevirtual 112, 3) := by decide +kernel
theorem dX8_wouldFail_55 : decode cX8_wouldFail 55 = .ok (.ireturn, 1) := by decide +kernel
set_option maxRecDepth 20000 in
theorem ggX8_wouldStamp_X8_isBelt : GoodIn wsX8_wouldStamp wsX8_isBelt := goodIn_r _ [6, 7, 8, 5, 9] (by decide +kernel) (by decide +kernel)
set_option maxRecDepth 20000 in
theorem gX8_wouldStamp_X8_isBelt : GoodIn wsX8_wouldStamp (va_wsS RX8 75 yX8_isBelt wsX8_isBelt) := goodIn_app (goodIn_of _ (by decide +kernel)) ggX8_wouldStamp_X8_isBelt
set_option maxRecDepth 20000 in
theorem ggX8_wouldStamp_X8_fails : GoodIn wsX8_wouldStamp wsX8_fails := goodIn_r _ [13, 14, 15, 69, 70, 71, 72, 73, 74, 75, 76, 77, 78, 79, 80, 81, 82, 83, 84, 85, 86, 87] (by decide +kernel) (by decide +kernel)
set_option maxRecDepth 20000 in
theorem gX8_wouldStamp_X8_fails : GoodIn wsX8_wouldStamp (wsV RX8 79 RX8 yX8_fails wsX8_fails) := goodIn_app (goodIn_of _ (by decide +kernel)) ggX8_wouldStamp_X8_fails
set_option maxRecDepth 20000 in
theorem ggX8_wouldStamp_X8_copies : GoodIn wsX8_wouldStamp wsX8_copies := goodIn_ca (goodIn_r _ [18] (by decide +kernel) (by decide +kernel)) (goodIn_sub (fun _ h => List.mem_cons_of_mem _ (List.mem_append_right _ h)) (by decide +kernel))
set_option maxRecDepth 20000 in
theorem gX8_wouldStamp_X8_copies : GoodIn wsX8_wouldStamp (va_wsS RX8 59 yX8_copies wsX8_copies) := goodIn_app (goodIn_of _ (by decide +kernel)) ggX8_wouldStamp_X8_copies
set_option maxRecDepth 20000 in
theorem ggX8_wouldStamp_X8_of : GoodIn wsX8_wouldStamp wsX8_of := goodIn_ca (goodIn_r _ [22, 1, 69, 70, 71, 72, 73, 74, 75, 76, 77, 78, 79, 80, 81, 82, 83, 84, 85, 86, 87] (by decide +kernel) (by decide +kernel)) (goodIn_sub (fun _ h => List.mem_cons_of_mem _ (List.mem_append_right _ h)) (by decide +kernel))
set_option maxRecDepth 20000 in
theorem gX8_wouldStamp_X8_of : GoodIn wsX8_wouldStamp (wsV RX8 63 RX8 yX8_of wsX8_of) := goodIn_app (goodIn_of _ (by decide +kernel)) ggX8_wouldStamp_X8_of
set_option maxRecDepth 20000 in
theorem ggX8_wouldStamp_X8_inspects : GoodIn wsX8_wouldStamp wsX8_inspects := goodIn_ca (goodIn_r _ [26, 1, 27, 28, 29, 5, 30, 31, 32, 33, 34, 35, 36, 37, 38, 39, 40, 41, 42, 19, 20, 21, 22, 43, 44, 45, 46, 47, 48, 49, 50, 51, 52, 53, 54, 55, 56, 57, 58, 59, 60, 61, 62, 63, 64, 65, 66, 67, 68, 69, 70, 71, 72, 73, 74, 75, 76, 77, 78, 79, 80, 81, 82, 83, 84, 85, 86, 87] (by decide +kernel) (by decide +kernel)) (goodIn_sub (fun _ h => List.mem_cons_of_mem _ (List.mem_append_right _ h)) (by decide +kernel))
set_option maxRecDepth 20000 in
theorem gX8_wouldStamp_X8_inspects : GoodIn wsX8_wouldStamp (wsV RX8 126 RX8 yX8_inspects wsX8_inspects) := goodIn_app (goodIn_of _ (by decide +kernel)) ggX8_wouldStamp_X8_inspects
theorem dX8_wouldStamp_0 : decode cX8_wouldStamp 0 = .ok (.aload_n 0, 1) := by decide +kernel
theorem dX8_wouldStamp_1 : decode cX8_wouldStamp 1 = .ok (.iload_n 1, 1) := by decide +kernel
theorem dX8_wouldStamp_2 : decode cX8_wouldStamp 2 = .ok (.invokestatic 75, 3) := by decide +kernel
theorem dX8_wouldStamp_5 : decode cX8_wouldStamp 5 = .ok (.ifCond .ne 7, 3) := by decide +kernel
theorem dX8_wouldStamp_8 : decode cX8_wouldStamp 8 = .ok (.iconst 1, 1) := by decide +kernel
theorem dX8_wouldStamp_9 : decode cX8_wouldStamp 9 = .ok (.goto 18, 3) := by decide +kernel
theorem dX8_wouldStamp_12 : decode cX8_wouldStamp 12 = .ok (.aload_n 0, 1) := by decide +kernel
theorem dX8_wouldStamp_13 : decode cX8_wouldStamp 13 = .ok (.getfield 7, 3) := by decide +kernel
theorem dX8_wouldStamp_16 : decode cX8_wouldStamp 16 = .ok (.bipush 9, 2) := by decide +kernel
theorem dX8_wouldStamp_18 : decode cX8_wouldStamp 18 = .ok (.iaload, 1) := by decide +kernel
theorem dX8_wouldStamp_19 : decode cX8_wouldStamp 19 = .ok (.ifCond .ne 7, 3) := by decide +kernel
theorem dX8_wouldStamp_22 : decode cX8_wouldStamp 22 = .ok (.iconst 2, 1) := by decide +kernel
theorem dX8_wouldStamp_23 : decode cX8_wouldStamp 23 = .ok (.goto 4, 3) := by decide +kernel
theorem dX8_wouldStamp_26 : decode cX8_wouldStamp 26 = .ok (.iconst 0, 1) := by decide +kernel
theorem dX8_wouldStamp_27 : decode cX8_wouldStamp 27 = .ok (.invokevirtual 79, 3) := by decide +kernel
theorem dX8_wouldStamp_30 : decode cX8_wouldStamp 30 = .ok (.ifCond .eq 5, 3) := by decide +kernel
theorem dX8_wouldStamp_33 : decode cX8_wouldStamp 33 = .ok (.iconst 0, 1) := by decide +kernel
theorem dX8_wouldStamp_34 : decode cX8_wouldStamp 34 = .ok (.ireturn, 1) := by decide +kernel
theorem dX8_wouldStamp_35 : decode cX8_wouldStamp 35 = .ok (.aload_n 0, 1) := by decide +kernel
theorem dX8_wouldStamp_36 : decode cX8_wouldStamp 36 = .ok (.getfield 7, 3) := by decide +kernel
theorem dX8_wouldStamp_39 : decode cX8_wouldStamp 39 = .ok (.iconst 0, 1) := by decide +kernel
theorem dX8_wouldStamp_40 : decode cX8_wouldStamp 40 = .ok (.aload_n 0, 1) := by decide +kernel
theorem dX8_wouldStamp_41 : decode cX8_wouldStamp 41 = .ok (.getfield 19, 3) := by decide +kernel
theorem dX8_wouldStamp_44 : decode cX8_wouldStamp 44 = .ok (.iconst 0, 1) := by decide +kernel
theorem dX8_wouldStamp_45 : decode cX8_wouldStamp 45 = .ok (.invokestatic 59, 3) := by decide +kernel
theorem dX8_wouldStamp_48 : decode cX8_wouldStamp 48 = .ok (.aload_n 0, 1) := by decide +kernel
theorem dX8_wouldStamp_49 : decode cX8_wouldStamp 49 = .ok (.iload_n 1, 1) := by decide +kernel
theorem dX8_wouldStamp_50 : decode cX8_wouldStamp 50 = .ok (.iconst 0, 1) := by decide +kernel
theorem dX8_wouldStamp_51 : decode cX8_wouldStamp 51 = .ok (.invokevirtual 63, 3) := by decide +kernel
theorem dX8_wouldStamp_54 : decode cX8_wouldStamp 54 = .ok (.ifCond .le 12, 3) := by decide +kernel
theorem dX8_wouldStamp_57 : decode cX8_wouldStamp 57 = .ok (.aload_n 0, 1) := by decide +kernel
theorem dX8_wouldStamp_58 : decode cX8_wouldStamp 58 = .ok (.iload_n 1, 1) := by decide +kernel
theorem dX8_wouldStamp_59 : decode cX8_wouldStamp 59 = .ok (.invokevirtual 126, 3) := by decide +kernel
theorem dX8_wouldStamp_62 : decode cX8_wouldStamp 62 = .ok (.pop, 1) := by decide +kernel
theorem dX8_wouldStamp_63 : decode cX8_wouldStamp 63 = .ok (.goto (-15), 3) := by decide +kernel
theorem dX8_wouldStamp_66 : decode cX8_wouldStamp 66 = .ok (.aload_n 0, 1) := by decide +kernel
theorem dX8_wouldStamp_67 : decode cX8_wouldStamp 67 = .ok (.iload_n 1, 1) := by decide +kernel
theorem dX8_wouldStamp_68 : decode cX8_wouldStamp 68 = .ok (.iconst 5, 1) := by decide +kernel
theorem dX8_wouldStamp_69 : decode cX8_wouldStamp 69 = .ok (.invokevirtual 63, 3) := by decide +kernel
theorem dX8_wouldStamp_72 : decode cX8_wouldStamp 72 = .ok (.istore_n 2, 1) := by decide +kernel
theorem dX8_wouldStamp_73 : decode cX8_wouldStamp 73 = .ok (.aload_n 0, 1) := by decide +kernel
theorem dX8_wouldStamp_74 : decode cX8_wouldStamp 74 = .ok (.getfield 19, 3) := by decide +kernel
theorem dX8_wouldStamp_77 : decode cX8_wouldStamp 77 = .ok (.iconst 0, 1) := by decide +kernel
theorem dX8_wouldStamp_78 : decode cX8_wouldStamp 78 = .ok (.aload_n 0, 1) := by decide +kernel
theorem dX8_wouldStamp_79 : decode cX8_wouldStamp 79 = .ok (.getfield 7, 3) := by decide +kernel
theorem dX8_wouldStamp_82 : decode cX8_wouldStamp 82 = .ok (.iconst 0, 1) := by decide +kernel
theorem dX8_wouldStamp_83 : decode cX8_wouldStamp 83 = .ok (.invokestatic 59, 3) := by decide +kernel
theorem dX8_wouldStamp_86 : decode cX8_wouldStamp 86 = .ok (.iload_n 2, 1) := by decide +kernel
theorem dX8_wouldStamp_87 : decode cX8_wouldStamp 87 = .ok (.aload_n 0, 1) := by decide +kernel
theorem dX8_wouldStamp_88 : decode cX8_wouldStamp 88 = .ok (.iload_n 1, 1) := by decide +kernel
theorem dX8_wouldStamp_89 : decode cX8_wouldStamp 89 = .ok (.iconst 5, 1) := by decide +kernel
theorem dX8_wouldStamp_90 : decode cX8_wouldStamp 90 = .ok (.invokevirtual 63, 3) := by decide +kernel
theorem dX8_wouldStamp_93 : decode cX8_wouldStamp 93 = .ok (.isub, 1) := by decide +kernel
theorem dX8_wouldStamp_94 : decode cX8_wouldStamp 94 = .ok (.ireturn, 1) := by decide +kernel
set_option maxRecDepth 20000 in
theorem ggX8_next_X8_fails : GoodIn wsX8_next wsX8_fails := goodIn_r _ [6, 7, 8, 13, 14, 15, 16, 17, 18, 19, 20, 21, 22, 23, 24, 25, 26, 27, 28, 29, 30, 31] (by decide +kernel) (by decide +kernel)
set_option maxRecDepth 20000 in
theorem gX8_next_X8_fails : GoodIn wsX8_next (wsV RX8 79 RX8 yX8_fails wsX8_fails) := goodIn_app (goodIn_of _ (by decide +kernel)) ggX8_next_X8_fails
set_option maxRecDepth 20000 in
theorem ggX8_next_X8_nextOne : GoodIn wsX8_next wsX8_nextOne := goodIn_ca (goodIn_r _ [12, 1, 13, 14, 15, 16, 17, 18, 19, 20, 21, 22, 23, 24, 25, 26, 27, 28, 29, 30, 31] (by decide +kernel) (by decide +kernel)) (goodIn_sub (fun _ h => List.mem_cons_of_mem _ (List.mem_append_right _ h)) (by decide +kernel))
set_option maxRecDepth 20000 in
theorem gX8_next_X8_nextOne : GoodIn wsX8_next (wsV RX8 108 RX8 yX8_nextOne wsX8_nextOne) := goodIn_app (goodIn_of _ (by decide +kernel)) ggX8_next_X8_nextOne
theorem dX8_next_0 : decode cX8_next 0 = .ok (.aload_n 0, 1) := by decide +kernel
theorem dX8_next_1 : decode cX8_next 1 = .ok (.aload_n 0, 1) := by decide +kernel
theorem dX8_next_2 : decode cX8_next 2 = .ok (.getfield 7, 3) := by decide +kernel
theorem dX8_next_5 : decode cX8_next 5 = .ok (.bipush 9, 2) := by decide +kernel
theorem dX8_next_7 : decode cX8_next 7 = .ok (.iaload, 1) := by decide +kernel
theorem dX8_next_8 : decode cX8_next 8 = .ok (.ifCond .ne 7, 3) := by decide +kernel
theorem dX8_next_11 : decode cX8_next 11 = .ok (.iconst 1, 1) := by decide +kernel
theorem dX8_next_12 : decode cX8_next 12 = .ok (.goto 4, 3) := by decide +kernel
theorem dX8_next_15 : decode cX8_next 15 = .ok (.iconst 0, 1) := by decide +kernel
theorem dX8_next_16 : decode cX8_next 16 = .ok (.invokevirtual 79, 3) := by decide +kernel
