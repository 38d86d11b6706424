theorem dX8_next_19 : decode cX8_next 19 = .ok (.ifCond .eq 7, 3) := by decide +kernel
theorem dX8_next_22 : decode cX8_next 22 = .ok (.iconst 0, 1) := by decide +kernel
theorem dX8_next_23 : decode cX8_next 23 = .ok (.goto 7, 3) := by decide +kernel
theorem dX8_next_26 : decode cX8_next 26 = .ok (.aload_n 0, 1) := by decide +kernel
theorem dX8_next_27 : decode cX8_next 27 = .ok (.invokevirtual 108, 3) := by decide +kernel
theorem dX8_next_30 : decode cX8_next 30 = .ok (.ireturn, 1) := by decide +kernel
set_option maxRecDepth 20000 in
theorem ggX8_leastGrey_X8_isBelt : GoodIn wsX8_leastGrey wsX8_isBelt := goodIn_r _ [4, 5, 6, 3, 7] (by decide +kernel) (by decide +kernel)
set_option maxRecDepth 20000 in
theorem gX8_leastGrey_X8_isBelt : GoodIn wsX8_leastGrey (va_wsS RX8 75 yX8_isBelt wsX8_isBelt) := goodIn_app (goodIn_of _ (by decide +kernel)) ggX8_leastGrey_X8_isBelt
set_option maxRecDepth 20000 in
theorem ggX8_leastGrey_X8_fails : GoodIn wsX8_leastGrey wsX8_fails := goodIn_r _ [11, 12, 13, 27, 28, 29, 30, 31, 32, 33, 34, 35, 36, 37, 38, 39, 40, 41, 42, 43, 44, 45] (by decide +kernel) (by decide +kernel)
set_option maxRecDepth 20000 in
theorem gX8_leastGrey_X8_fails : GoodIn wsX8_leastGrey (wsV RX8 79 RX8 yX8_fails wsX8_fails) := goodIn_app (goodIn_of _ (by decide +kernel)) ggX8_leastGrey_X8_fails
set_option maxRecDepth 20000 in
theorem ggX8_leastGrey_X8_of : GoodIn wsX8_leastGrey wsX8_of := goodIn_ca (goodIn_r _ [17, 18, 27, 28, 29, 30, 31, 32, 33, 34, 35, 36, 37, 38, 39, 40, 41, 42, 43, 44, 45] (by decide +kernel) (by decide +kernel)) (goodIn_sub (fun _ h => List.mem_cons_of_mem _ (List.mem_append_right _ h)) (by decide +kernel))
set_option maxRecDepth 20000 in
theorem gX8_leastGrey_X8_of : GoodIn wsX8_leastGrey (wsV RX8 63 RX8 yX8_of wsX8_of) := goodIn_app (goodIn_of _ (by decide +kernel)) ggX8_leastGrey_X8_of
set_option maxRecDepth 20000 in
theorem ggX8_leastGrey_X8_isBlank : GoodIn wsX8_leastGrey wsX8_isBlank := goodIn_ca (goodIn_r _ [22, 23, 24, 25, 3, 26, 14, 15, 16, 17, 18, 27, 28, 29, 30, 31, 32, 33, 34, 35, 36, 37, 38, 39, 40, 41, 42, 43, 44, 45] (by decide +kernel) (by decide +kernel)) (goodIn_sub (fun _ h => List.mem_cons_of_mem _ (List.mem_append_right _ h)) (by decide +kernel))
set_option maxRecDepth 20000 in
theorem gX8_leastGrey_X8_isBlank : GoodIn wsX8_leastGrey (wsV RX8 93 RX8 yX8_isBlank wsX8_isBlank) := goodIn_app (goodIn_of _ (by decide +kernel)) ggX8_leastGrey_X8_isBlank
set_option maxRecDepth 20000 in
theorem ggX8_leastGrey_X8_on : GoodIn wsX8_leastGrey wsX8_on := goodIn_ca (goodIn_r _ [26, 14, 15, 16, 3, 17, 18, 27, 28, 29, 30, 31, 32, 33, 34, 35, 36, 37, 38, 39, 40, 41, 42, 43, 44, 45] (by decide +kernel) (by decide +kernel)) (goodIn_sub (fun _ h => List.mem_cons_of_mem _ (List.mem_append_right _ h)) (by decide +kernel))
set_option maxRecDepth 20000 in
theorem gX8_leastGrey_X8_on : GoodIn wsX8_leastGrey (wsV RX8 67 RX8 yX8_on wsX8_on) := goodIn_app (goodIn_of _ (by decide +kernel)) ggX8_leastGrey_X8_on
theorem dX8_leastGrey_0 : decode cX8_leastGrey 0 = .ok (.aload_n 0, 1) := by decide +kernel
theorem dX8_leastGrey_1 : decode cX8_leastGrey 1 = .ok (.iload_n 1, 1) := by decide +kernel
theorem dX8_leastGrey_2 : decode cX8_leastGrey 2 = .ok (.invokestatic 75, 3) := by decide +kernel
theorem dX8_leastGrey_5 : decode cX8_leastGrey 5 = .ok (.ifCond .eq 7, 3) := by decide +kernel
theorem dX8_leastGrey_8 : decode cX8_leastGrey 8 = .ok (.iconst 0, 1) := by decide +kernel
theorem dX8_leastGrey_9 : decode cX8_leastGrey 9 = .ok (.goto 4, 3) := by decide +kernel
theorem dX8_leastGrey_12 : decode cX8_leastGrey 12 = .ok (.iconst 1, 1) := by decide +kernel
theorem dX8_leastGrey_13 : decode cX8_leastGrey 13 = .ok (.invokevirtual 79, 3) := by decide +kernel
theorem dX8_leastGrey_16 : decode cX8_leastGrey 16 = .ok (.ifCond .eq 5, 3) := by decide +kernel
theorem dX8_leastGrey_19 : decode cX8_leastGrey 19 = .ok (.iconst 0, 1) := by decide +kernel
theorem dX8_leastGrey_20 : decode cX8_leastGrey 20 = .ok (.ireturn, 1) := by decide +kernel
theorem dX8_leastGrey_21 : decode cX8_leastGrey 21 = .ok (.bipush 9, 2) := by decide +kernel
theorem dX8_leastGrey_23 : decode cX8_leastGrey 23 = .ok (.istore_n 2, 1) := by decide +kernel
theorem dX8_leastGrey_24 : decode cX8_leastGrey 24 = .ok (.iconst 0, 1) := by decide +kernel
theorem dX8_leastGrey_25 : decode cX8_leastGrey 25 = .ok (.istore_n 3, 1) := by decide +kernel
theorem dX8_leastGrey_26 : decode cX8_leastGrey 26 = .ok (.iload_n 3, 1) := by decide +kernel
theorem dX8_leastGrey_27 : decode cX8_leastGrey 27 = .ok (.aload_n 0, 1) := by decide +kernel
theorem dX8_leastGrey_28 : decode cX8_leastGrey 28 = .ok (.iload_n 1, 1) := by decide +kernel
theorem dX8_leastGrey_29 : decode cX8_leastGrey 29 = .ok (.iconst 0, 1) := by decide +kernel
theorem dX8_leastGrey_30 : decode cX8_leastGrey 30 = .ok (.invokevirtual 63, 3) := by decide +kernel
theorem dX8_leastGrey_33 : decode cX8_leastGrey 33 = .ok (.if_icmp .ge 37, 3) := by decide +kernel
theorem dX8_leastGrey_36 : decode cX8_leastGrey 36 = .ok (.aload_n 0, 1) := by decide +kernel
theorem dX8_leastGrey_37 : decode cX8_leastGrey 37 = .ok (.iload_n 1, 1) := by decide +kernel
theorem dX8_leastGrey_38 : decode cX8_leastGrey 38 = .ok (.iload_n 3, 1) := by decide +kernel
theorem dX8_leastGrey_39 : decode cX8_leastGrey 39 = .ok (.invokevirtual 93, 3) := by decide +kernel
theorem dX8_leastGrey_42 : decode cX8_leastGrey 42 = .ok (.ifCond .ne 22, 3) := by decide +kernel
theorem dX8_leastGrey_45 : decode cX8_leastGrey 45 = .ok (.aload_n 0, 1) := by decide +kernel
theorem dX8_leastGrey_46 : decode cX8_leastGrey 46 = .ok (.iload_n 1, 1) := by decide +kernel
theorem dX8_leastGrey_47 : decode cX8_leastGrey 47 = .ok (.iload_n 3, 1) := by decide +kernel
theorem dX8_leastGrey_48 : decode cX8_leastGrey 48 = .ok (.iconst 1, 1) := by decide +kernel
theorem dX8_leastGrey_49 : decode cX8_leastGrey 49 = .ok (.invokevirtual 67, 3) := by decide +kernel
theorem dX8_leastGrey_52 : decode cX8_leastGrey 52 = .ok (.iload_n 2, 1) := by decide +kernel
theorem dX8_leastGrey_53 : decode cX8_leastGrey 53 = .ok (.if_icmp .ge 11, 3) := by decide +kernel
theorem dX8_leastGrey_56 : decode cX8_leastGrey 56 = .ok (.aload_n 0, 1) := by decide +kernel
theorem dX8_leastGrey_57 : decode cX8_leastGrey 57 = .ok (.iload_n 1, 1) := by decide +kernel
theorem dX8_leastGrey_58 : decode cX8_leastGrey 58 = .ok (.iload_n 3, 1) := by decide +kernel
theorem dX8_leastGrey_59 : decode cX8_leastGrey 59 = .ok (.iconst 1, 1) := by decide +kernel
theorem dX8_leastGrey_60 : decode cX8_leastGrey 60 = .ok (.invokevirtual 67, 3) := by decide +kernel
theorem dX8_leastGrey_63 : decode cX8_leastGrey 63 = .ok (.istore_n 2, 1) := by decide +kernel
theorem dX8_leastGrey_64 : decode cX8_leastGrey 64 = .ok (.iinc 3 1, 3) := by decide +kernel
theorem dX8_leastGrey_67 : decode cX8_leastGrey 67 = .ok (.goto (-41), 3) := by decide +kernel
theorem dX8_leastGrey_70 : decode cX8_leastGrey 70 = .ok (.iload_n 2, 1) := by decide +kernel
theorem dX8_leastGrey_71 : decode cX8_leastGrey 71 = .ok (.ireturn, 1) := by decide +kernel
set_option maxRecDepth 20000 in
theorem ggX8_rejectOf_X8_isReject : GoodIn wsX8_rejectOf wsX8_isReject := goodIn_ca (goodIn_r _ [6, 1, 7, 8, 5, 9, 28, 29, 30, 31, 32, 33, 34, 35, 36, 37, 38, 39, 40, 41, 42, 43, 44, 45, 46] (by decide +kernel) (by decide +kernel)) (goodIn_sub (fun _ h => List.mem_cons_of_mem _ (List.mem_append_right _ h)) (by decide +kernel))
set_option maxRecDepth 20000 in
theorem gX8_rejectOf_X8_isReject : GoodIn wsX8_rejectOf (wsV RX8 135 RX8 yX8_isReject wsX8_isReject) := goodIn_app (goodIn_of _ (by decide +kernel)) ggX8_rejectOf_X8_isReject
set_option maxRecDepth 20000 in
theorem ggX8_rejectOf_X8_in : GoodIn wsX8_rejectOf wsX8_in := goodIn_r _ [9] (by decide +kernel) (by decide +kernel)
set_option maxRecDepth 20000 in
theorem gX8_rejectOf_X8_in : GoodIn wsX8_rejectOf (va_wsS RX8 71 yX8_in wsX8_in) := goodIn_app (goodIn_of _ (by decide +kernel)) ggX8_rejectOf_X8_in
set_option maxRecDepth 20000 in
theorem ggX8_rejectOf_X8_fails : GoodIn wsX8_rejectOf wsX8_fails := goodIn_r _ [13, 14, 15, 28, 29, 30, 31, 32, 33, 34, 35, 36, 37, 38, 39, 40, 41, 42, 43, 44, 45, 46] (by decide +kernel) (by decide +kernel)
set_option maxRecDepth 20000 in
theorem gX8_rejectOf_X8_fails : GoodIn wsX8_rejectOf (wsV RX8 79 RX8 yX8_fails wsX8_fails) := goodIn_app (goodIn_of _ (by decide +kernel)) ggX8_rejectOf_X8_fails
set_option maxRecDepth 20000 in
theorem ggX8_rejectOf_X8_its : GoodIn wsX8_rejectOf wsX8_its := goodIn_ca (goodIn_r _ [19, 1, 28, 29, 30, 31, 32, 33, 34, 35, 36, 37, 38, 39, 40, 41, 42, 43, 44, 45, 46] (by decide +kernel) (by decide +kernel)) (goodIn_sub (fun _ h => List.mem_cons_of_mem _ (List.mem_append_right _ h)) (by decide +kernel))
set_option maxRecDepth 20000 in
theorem gX8_rejectOf_X8_its : GoodIn wsX8_rejectOf (wsV RX8 132 RX8 yX8_its wsX8_its) := goodIn_app (goodIn_of _ (by decide +kernel)) ggX8_rejectOf_X8_its
set_option maxRecDepth 20000 in
theorem ggX8_rejectOf_X8_worth : GoodIn wsX8_rejectOf wsX8_worth := goodIn_ca (goodIn_r _ [23, 16, 17, 18, 5, 19, 1, 28, 29, 30, 31, 32, 33, 34, 35, 36, 37, 38, 39, 40, 41, 42, 43, 44, 45, 46] (by decide +kernel) (by decide +kernel)) (goodIn_sub (fun _ h => List.mem_cons_of_mem _ (List.mem_append_right _ h)) (by decide +kernel))
set_option maxRecDepth 20000 in
theorem gX8_rejectOf_X8_worth : GoodIn wsX8_rejectOf (wsV RX8 138 RX8 yX8_worth wsX8_worth) := goodIn_app (goodIn_of _ (by decide +kernel)) ggX8_rejectOf_X8_worth
set_option maxRecDepth 20000 in
theorem ggX8_rejectOf_X8_cost : GoodIn wsX8_rejectOf wsX8_cost := goodIn_ca (goodIn_r _ [27, 16, 17, 18, 5, 19, 1, 28, 29, 30, 31, 32, 33, 34, 35, 36, 37, 38, 39, 40, 41, 42, 43, 44, 45, 46] (by decide +kernel) (by decide +kernel)) (goodIn_sub (fun _ h => List.mem_cons_of_mem _ (List.mem_append_right _ h)) (by decide +kernel))
set_option maxRecDepth 20000 in
theorem gX8_rejectOf_X8_cost : GoodIn wsX8_rejectOf (wsV RX8 144 RX8 yX8_cost wsX8_cost) := goodIn_app (goodIn_of _ (by decide +kernel)) ggX8_rejectOf_X8_cost
theorem dX8_rejectOf_0 : decode cX8_rejectOf 0 = .ok (.aload_n 0, 1) := by decide +kernel
theorem dX8_rejectOf_1 : decode cX8_rejectOf 1 = .ok (.aload_n 0, 1) := by decide +kernel
theorem dX8_rejectOf_2 : decode cX8_rejectOf 2 = .ok (.iload_n 1, 1) := by decide +kernel
theorem dX8_rejectOf_3 : decode cX8_rejectOf 3 = .ok (.invokevirtual 135, 3) := by decide +kernel
theorem dX8_rejectOf_6 : decode cX8_rejectOf 6 = .ok (.ifCond .ne 7, 3) := by decide +kernel
theorem dX8_rejectOf_9 : decode cX8_rejectOf 9 = .ok (.iconst 1, 1) := by decide +kernel
theorem dX8_rejectOf_10 : decode cX8_rejectOf 10 = .ok (.goto 17, 3) := by decide +kernel
theorem dX8_rejectOf_13 : decode cX8_rejectOf 13 = .ok (.iload_n 2, 1) := by decide +kernel
theorem dX8_rejectOf_14 : decode cX8_rejectOf 14 = .ok (.iconst 0, 1) := by decide +kernel
theorem dX8_rejectOf_15 : decode cX8_rejectOf 15 = .ok (.iconst 5, 1) := by decide +kernel
theorem dX8_rejectOf_16 : decode cX8_rejectOf 16 = .ok (.invokestatic 71, 3) := by decide +kernel
theorem dX8_rejectOf_19 : decode cX8_rejectOf 19 = .ok (.ifCond .eq 7, 3) := by decide +kernel
theorem dX8_rejectOf_22 : decode cX8_rejectOf 22 = .ok (.iconst 0, 1) := by decide +kernel
theorem dX8_rejectOf_23 : decode cX8_rejectOf 23 = .ok (.goto 4, 3) := by decide +kernel
theorem dX8_rejectOf_26 : decode cX8_rejectOf 26 = .ok (.iconst 2, 1) := by decide +kernel
theorem dX8_rejectOf_27 : decode cX8_rejectOf 27 = .ok (.invokevirtual 79, 3) := by decide +kernel
theorem dX8_rejectOf_30 : decode cX8_rejectOf 30 = .ok (.ifCond .eq 5, 3) := by decide +kernel
theorem dX8_rejectOf_33 : decode cX8_rejectOf 33 = .ok (.iconst 0, 1) := by decide +kernel
theorem dX8_rejectOf_34 : decode cX8_rejectOf 34 = .ok (.ireturn, 1) := by decide +kernel
theorem dX8_rejectOf_35 : decode cX8_rejectOf 35 = .ok (.iload_n 2, 1) := by decide +kernel
theorem dX8_rejectOf_36 : decode cX8_rejectOf 36 = .ok (.iconst 4, 1) := by decide +kernel
theorem dX8_rejectOf_37 : decode cX8_rejectOf 37 = .ok (.if_icmp .ge 12, 3) := by decide +kernel
theorem dX8_rejectOf_40 : decode cX8_rejectOf 40 = .ok (.aload_n 0, 1) := by decide +kernel
theorem dX8_rejectOf_41 : decode cX8_rejectOf 41 = .ok (.iload_n 1, 1) := by decide +kernel
theorem dX8_rejectOf_42 : decode cX8_rejectOf 42 = .ok (.iload_n 2, 1) := by decide +kernel
theorem dX8_rejectOf_43 : decode cX8_rejectOf 43 = .ok (.invokevirtual 132, 3) := by decide +kernel
theorem dX8_rejectOf_46 : decode cX8_rejectOf 46 = .ok (.goto 28, 3) := by decide +kernel
theorem dX8_rejectOf_49 : decode cX8_rejectOf 49 = .ok (.iload_n 2, 1) := by decide +kernel
theorem dX8_rejectOf_50 : decode cX8_rejectOf 50 = .ok (.iconst 4, 1) := by decide +kernel
theorem dX8_rejectOf_51 : decode cX8_rejectOf 51 = .ok (.if_icmp .ne 18, 3) := by decide +kernel
theorem dX8_rejectOf_54 : decode cX8_rejectOf 54 = .ok (.aload_n 0, 1) := by decide +kernel
theorem dX8_rejectOf_55 : decode cX8_rejectOf 55 = .ok (.iload_n 1, 1) := by decide +kernel
theorem dX8_rejectOf_56 : decode cX8_rejectOf 56 = .ok (.aload_n 0, 1) := by decide +kernel
theorem dX8_rejectOf_57 : decode cX8_rejectOf 57 = .ok (.getfield 7, 3) := by decide +kernel
theorem dX8_rejectOf_60 : decode cX8_rejectOf 60 = .ok (.bipush 7, 2) := by decide +kernel
theorem dX8_rejectOf_62 : decode cX8_rejectOf 62 = .ok (.iaload, 1) := by decide +kernel
theorem dX8_rejectOf_63 : decode cX8_rejectOf 63 = .ok (.invokevirtual 138, 3) := by decide +kernel
theorem dX8_rejectOf_66 : decode cX8_rejectOf 66 = .ok (.goto 8, 3) := by decide +kernel
theorem dX8_rejectOf_69 : decode cX8_rejectOf 69 = .ok (.aload_n 0, 1) := by decide +kernel
theorem dX8_rejectOf_70 : decode cX8_rejectOf 70 = .ok (.iload_n 1, 1) := by decide +kernel
theorem dX8_rejectOf_71 : decode cX8_rejectOf 71 = .ok (.invokevirtual 144, 3) := by decide +kernel
theorem dX8_rejectOf_74 : decode cX8_rejectOf 74 = .ok (.ireturn, 1) := by decide +kernel
set_option maxRecDepth 20000 in
theorem ggX8_best_X8_worth : GoodIn wsX8_best wsX8_worth := goodIn_ca (goodIn_r _ [6, 7, 8, 9, 5, 10, 1, 17, 18, 19, 20, 21, 22, 23, 24, 25, 26, 27, 28, 29, 30, 31, 32, 33, 34, 35] (by decide +kernel) (by decide +kernel)) (goodIn_sub (fun _ h => List.mem_cons_of_mem _ (List.mem_append_right _ h)) (by decide +kernel))
set_option maxRecDepth 20000 in
theorem gX8_best_X8_worth : GoodIn wsX8_best (wsV RX8 138 RX8 yX8_worth wsX8_worth) := goodIn_app (goodIn_of _ (by decide +kernel)) ggX8_best_X8_worth
set_option maxRecDepth 20000 in
theorem ggX8_best_X8_fails : GoodIn wsX8_best wsX8_fails := goodIn_r _ [14, 15, 16, 17, 18, 19, 20, 21, 22, 23, 24, 25, 26, 27, 28, 29, 30, 31, 32, 33, 34, 35] (by decide +kernel) (by decide +kernel)
set_option maxRecDepth 20000 in
theorem gX8_best_X8_fails : GoodIn wsX8_best (wsV RX8 79 RX8 yX8_fails wsX8_fails) := goodIn_app (goodIn_of _ (by decide +kernel)) ggX8_best_X8_fails
theorem dX8_best_0 : decode cX8_best 0 = .ok (.iconst 0, 1) := by decide +kernel
theorem dX8_best_1 : decode cX8_best 1 = .ok (.istore_n 1, 1) := by decide +kernel
theorem dX8_best_2 : decode cX8_best 2 = .ok (.iconst 1, 1) := by decide +kernel
theorem dX8_best_3 : decode cX8_best 3 = .ok (.istore_n 2, 1) := by decide +kernel
theorem dX8_best_4 : decode cX8_best 4 = .ok (.iload_n 2, 1) := by decide +kernel
theorem dX8_best_5 : decode cX8_best 5 = .ok (.aload_n 0, 1) := by decide +kernel
theorem dX8_best_6 : decode cX8_best 6 = .ok (.getfield 7, 3) := by decide +kernel
theorem dX8_best_9 : decode cX8_best 9 = .ok (.bipush 10, 2) := by decide +kernel
theorem dX8_best_11 : decode cX8_best 11 = .ok (.iaload, 1) := by decide +kernel
theorem dX8_best_12 : decode cX8_best 12 = .ok (.if_icmp .ge 38, 3) := by decide +kernel
theorem dX8_best_15 : decode cX8_best 15 = .ok (.aload_n 0, 1) := by decide +kernel
theorem dX8_best_16 : decode cX8_best 16 = .ok (.iload_n 2, 1) := by decide +kernel
theorem dX8_best_17 : decode cX8_best 17 = .ok (.aload_n 0, 1) := by decide +kernel
theorem dX8_best_18 : decode cX8_best 18 = .ok (.getfield 7, 3) := by decide +kernel
theorem dX8_best_21 : decode cX8_best 21 = .ok (.bipush 7, 2) := by decide +kernel
theorem dX8_best_23 : decode cX8_best 23 = .ok (.iaload, 1) := by decide +kernel
theorem dX8_best_24 : decode cX8_best 24 = .ok (.invokevirtual 138, 3) := by decide +kernel
theorem dX8_best_27 : decode cX8_best 27 = .ok (.aload_n 0, 1) := by decide +kernel
theorem dX8_best_28 : decode cX8_best 28 = .ok (.iload_n 1, 1) := by decide +kernel
theorem dX8_best_29 : decode cX8_best 29 = .ok (.aload_n 0, 1) := by decide +kernel
theorem dX8_best_30 : decode cX8_best 30 = .ok (.getfield 7, 3) := by decide +kernel
theorem dX8_best_33 : decode cX8_best 33 = .ok (.bipush 7, 2) := by decide +kernel
theorem dX8_best_35 : decode cX8_best 35 = .ok (.iaload, 1) := by decide +kernel
theorem dX8_best_36 : decode cX8_best 36 = .ok (.invokevirtual 138, 3) := by decide +kernel
theorem dX8_best_39 : decode cX8_best 39 = .ok (.if_icmp .le 5, 3) := by decide +kernel
theorem dX8_best_42 : decode cX8_best 42 = .ok (.iload_n 2, 1) := by decide +kernel
theorem dX8_best_43 : decode cX8_best 43 = .ok (.istore_n 1, 1) := by decide +kernel
theorem dX8_best_44 : decode cX8_best 44 = .ok (.iinc 2 1, 3) := by decide +kernel
theorem dX8_best_47 : decode cX8_best 47 = .ok (.goto (-43), 3) := by decide +kernel
theorem dX8_best_50 : decode cX8_best 50 = .ok (.aload_n 0, 1) := by decide +kernel
theorem dX8_best_51 : decode cX8_best 51 = .ok (.aload_n 0, 1) := by decide +kernel
theorem dX8_best_52 : decode cX8_best 52 = .ok (.getfield 7, 3) := by decide +kernel
theorem dX8_best_55 : decode cX8_best 55 = .ok (.bipush 10, 2) := by decide +kernel
theorem dX8_best_57 : decode cX8_best 57 = .ok (.iaload, 1) := by decide +kernel
theorem dX8_best_58 : decode cX8_best 58 = .ok (.ifCond .ne 7, 3) := by decide +kernel
theorem dX8_best_61 : decode cX8_best 61 = .ok (.iconst 1, 1) := by decide +kernel
theorem dX8_best_62 : decode cX8_best 62 = .ok (.goto 4, 3) := by decide +kernel
theorem dX8_best_65 : decode cX8_best 65 = .ok (.iconst 0, 1) := by decide +kernel
theorem dX8_best_66 : decode cX8_best 66 = .ok (.invokevirtual 79, 3) := by decide +kernel
theorem dX8_best_69 : decode cX8_best 69 = .ok (.ifCond .eq 7, 3) := by decide +kernel
theorem dX8_best_72 : decode cX8_best 72 = .ok (.iconst 0, 1) := by decide +kernel
theorem dX8_best_73 : decode cX8_best 73 = .ok (.goto 4, 3) := by decide +kernel
theorem dX8_best_76 : decode cX8_best 76 = .ok (.iload_n 1, 1) := by decide +kernel
theorem dX8_best_77 : decode cX8_best 77 = .ok (.ireturn, 1) := by decide +kernel
set_option maxRecDepth 20000 in
theorem ggX8_inOrder_X8_worth : GoodIn wsX8_inOrder wsX8_worth := goodIn_ca (goodIn_r _ [6, 7, 8, 9, 5, 10, 1, 11, 12, 13, 14, 15, 16, 17, 18, 19, 20, 21, 22, 23, 24, 25, 26, 27, 28, 29] (by decide +kernel) (by decide +kernel)) (goodIn_sub (fun _ h => List.mem_cons_of_mem _ (List.mem_append_right _ h)) (by decide +kernel))
set_option maxRecDepth 20000 in
theorem gX8_inOrder_X8_worth : GoodIn wsX8_inOrder (wsV RX8 138 RX8 yX8_worth wsX8_worth) := goodIn_app (goodIn_of _ (by decide +kernel)) ggX8_inOrder_X8_worth
theorem dX8_inOrder_0 : decode cX8_inOrder 0 = .ok (.iconst 0, 1) := by decide +kernel
theorem dX8_inOrder_1 : decode cX8_inOrder 1 = .ok (.istore_n 1, 1) := by decide +kernel
theorem dX8_inOrder_2 : decode cX8_inOrder 2 = .ok (.iconst 0, 1) := by decide +kernel
theorem dX8_inOrder_3 : decode cX8_inOrder 3 = .ok (.istore_n 2, 1) := by decide +kernel
theorem dX8_inOrder_4 : decode cX8_inOrder 4 = .ok (.iload_n 2, 1) := by decide +kernel
theorem dX8_inOrder_5 : decode cX8_inOrder 5 = .ok (.aload_n 0, 1) := by decide +kernel
theorem dX8_inOrder_6 : decode cX8_inOrder 6 = .ok (.getfield 7, 3) := by decide +kernel
theorem dX8_inOrder_9 : decode cX8_inOrder 9 = .ok (.bipush 10, 2) := by decide +kernel
theorem dX8_inOrder_11 : decode cX8_inOrder 11 = .ok (.iaload, 1) := by decide +kernel
theorem dX8_inOrder_12 : decode cX8_inOrder 12 = .ok (.if_icmp .ge 26, 3) := by decide +kernel
theorem dX8_inOrder_15 : decode cX8_inOrder 15 = .ok (.iload_n 1, 1) := by decide +kernel
theorem dX8_inOrder_16 : decode cX8_inOrder 16 = .ok (.aload_n 0, 1) := by decide +kernel
theorem dX8_inOrder_17 : decode cX8_inOrder 17 = .ok (.iload_n 2, 1) := by decide +kernel
theorem dX8_inOrder_18 : decode cX8_inOrder 18 = .ok (.aload_n 0, 1) := by decide +kernel
theorem dX8_inOrder_19 : decode cX8_inOrder 19 = .ok (.getfield 7, 3) := by decide +kernel
theorem dX8_inOrder_22 : decode cX8_inOrder 22 = .ok (.bipush 7, 2) := by decide +kernel
theorem dX8_inOrder_24 : decode cX8_inOrder 24 = .ok (.iaload, 1) := by decide +kernel
theorem dX8_inOrder_25 : decode cX8_inOrder 25 = .ok (.iload_n 2, 1) := by decide +kernel
theorem dX8_inOrder_26 : decode cX8_inOrder 26 = .ok (.iadd, 1) := by decide +kernel
theorem dX8_inOrder_27 : decode cX8_inOrder 27 = .ok (.invokevirtual 138, 3) := by decide +kernel
theorem dX8_inOrder_30 : decode cX8_inOrder 30 = .ok (.iadd, 1) := by decide +kernel
theorem dX8_inOrder_31 : decode cX8_inOrder 31 = .ok (.istore_n 1, 1) := by decide +kernel
theorem dX8_inOrder_32 : decode cX8_inOrder 32 = .ok (.iinc 2 1, 3) := by decide +kernel
theorem dX8_inOrder_35 : decode cX8_inOrder 35 = .ok (.goto (-31), 3) := by decide +kernel
theorem dX8_inOrder_38 : decode cX8_inOrder 38 = .ok (.iload_n 1, 1) := by decide +kernel
theorem dX8_inOrder_39 : decode cX8_inOrder 39 = .ok (.ireturn, 1) := by decide +kernel
set_option maxRecDepth 20000 in
theorem ggX8_allPrices_X8_inOrder : GoodIn wsX8_allPrices wsX8_inOrder := goodIn_ca (goodIn_r _ [6, 7, 8, 9, 10, 5, 11, 12, 13, 14, 15, 16, 17, 18, 19, 20, 21, 22, 23, 24, 25, 26, 27, 28, 29, 30, 31, 32, 33, 34] (by decide +kernel) (by decide +kernel)) (goodIn_sub (fun _ h => List.mem_cons_of_mem _ (List.mem_append_right _ h)) (by decide +kernel))
set_option maxRecDepth 20000 in
theorem gX8_allPrices_X8_inOrder : GoodIn wsX8_allPrices (wsV RX8 156 RX8 yX8_inOrder wsX8_inOrder) := goodIn_app (goodIn_of _ (by decide +kernel)) ggX8_allPrices_X8_inOrder
theorem dX8_allPrices_0 : decode cX8_allPrices 0 = .ok (.aload_n 0, 1) := by decide +kernel
theorem dX8_allPrices_1 : decode cX8_allPrices 1 = .ok (.iconst 0, 1) := by decide +kernel
theorem dX8_allPrices_2 : decode cX8_allPrices 2 = .ok (.putfield 40, 3) := by decide +kernel
theorem dX8_allPrices_5 : decode cX8_allPrices 5 = .ok (.aload_n 0, 1) := by decide +kernel
theorem dX8_allPrices_6 : decode cX8_allPrices 6 = .ok (.invokevirtual 156, 3) := by decide +kernel
theorem dX8_allPrices_9 : decode cX8_allPrices 9 = .ok (.ireturn, 1) := by decide +kernel
set_option maxRecDepth 20000 in
theorem ggX8_ahead_X8_worth : GoodIn wsX8_ahead wsX8_worth := goodIn_ca (goodIn_r _ [6, 7, 8, 9, 5, 10, 1, 11, 12, 13, 14, 15, 16, 17, 18, 19, 20, 21, 22, 23, 24, 25, 26, 27, 28, 29] (by decide +kernel) (by decide +kernel)) (goodIn_sub (fun _ h => List.mem_cons_of_mem _ (List.mem_append_right _ h)) (by decide +kernel))
set_option maxRecDepth 20000 in
theorem gX8_ahead_X8_worth : GoodIn wsX8_ahead (wsV RX8 138 RX8 yX8_worth wsX8_worth) := goodIn_app (goodIn_of _ (by decide +kernel)) ggX8_ahead_X8_worth
theorem dX8_ahead_0 : decode cX8_ahead 0 = .ok (.iconst 0, 1) := by decide +kernel
theorem dX8_ahead_1 : decode cX8_ahead 1 = .ok (.istore_n 2, 1) := by decide +kernel
theorem dX8_ahead_2 : decode cX8_ahead 2 = .ok (.aload_n 0, 1) := by decide +kernel
theorem dX8_ahead_3 : decode cX8_ahead 3 = .ok (.iload_n 1, 1) := by decide +kernel
theorem dX8_ahead_4 : decode cX8_ahead 4 = .ok (.aload_n 0, 1) := by decide +kernel
theorem dX8_ahead_5 : decode cX8_ahead 5 = .ok (.getfield 7, 3) := by decide +kernel
theorem dX8_ahead_8 : decode cX8_ahead 8 = .ok (.bipush 7, 2) := by decide +kernel
theorem dX8_ahead_10 : decode cX8_ahead 10 = .ok (.iaload, 1) := by decide +kernel
theorem dX8_ahead_11 : decode cX8_ahead 11 = .ok (.invokevirtual 138, 3) := by decide +kernel
theorem dX8_ahead_14 : decode cX8_ahead 14 = .ok (.istore_n 3, 1) := by decide +kernel
theorem dX8_ahead_15 : decode cX8_ahead 15 = .ok (.iconst 0, 1) := by decide +kernel
theorem dX8_ahead_16 : decode cX8_ahead 16 = .ok (.istore 4, 2) := by decide +kernel
theorem dX8_ahead_18 : decode cX8_ahead 18 = .ok (.iload 4, 2) := by decide +kernel
theorem dX8_ahead_20 : decode cX8_ahead 20 = .ok (.aload_n 0, 1) := by decide +kernel
theorem dX8_ahead_21 : decode cX8_ahead 21 = .ok (.getfield 7, 3) := by decide +kernel
theorem dX8_ahead_24 : decode cX8_ahead 24 = .ok (.bipush 10, 2) := by decide +kernel
theorem dX8_ahead_26 : decode cX8_ahead 26 = .ok (.iaload, 1) := by decide +kernel
theorem dX8_ahead_27 : decode cX8_ahead 27 = .ok (.if_icmp .ge 57, 3) := by decide +kernel
theorem dX8_ahead_30 : decode cX8_ahead 30 = .ok (.iload_n 2, 1) := by decide +kernel
theorem dX8_ahead_31 : decode cX8_ahead 31 = .ok (.aload_n 0, 1) := by decide +kernel
theorem dX8_ahead_32 : decode cX8_ahead 32 = .ok (.iload 4, 2) := by decide +kernel
theorem dX8_ahead_34 : decode cX8_ahead 34 = .ok (.aload_n 0, 1) := by decide +kernel
theorem dX8_ahead_35 : decode cX8_ahead 35 = .ok (.getfield 7, 3) := by decide +kernel
theorem dX8_ahead_38 : decode cX8_ahead 38 = .ok (.bipush 7, 2) := by decide +kernel
theorem dX8_ahead_40 : decode cX8_ahead 40 = .ok (.iaload, 1) := by decide +kernel
theorem dX8_ahead_41 : decode cX8_ahead 41 = .ok (.invokevirtual 138, 3) := by decide +kernel
theorem dX8_ahead_44 : decode cX8_ahead 44 = .ok (.iload_n 3, 1) := by decide +kernel
theorem dX8_ahead_45 : decode cX8_ahead 45 = .ok (.if_icmp .gt 26, 3) := by decide +kernel
theorem dX8_ahead_48 : decode cX8_ahead 48 = .ok (.aload_n 0, 1) := by decide +kernel
theorem dX8_ahead_49 : decode cX8_ahead 49 = .ok (.iload 4, 2) := by decide +kernel
theorem dX8_ahead_51 : decode cX8_ahead 51 = .ok (.aload_n 0, 1) := by decide +kernel
theorem dX8_ahead_52 : decode cX8_ahead 52 = .ok (.getfield 7, 3) := by decide +kernel
theorem dX8_ahead_55 : decode cX8_ahead 55 = .ok (.bipush 7, 2) := by decide +kernel
theorem dX8_ahead_57 : decode cX8_ahead 57 = .ok (.iaload, 1) := by decide +kernel
theorem dX8_ahead_58 : decode cX8_ahead 58 = .ok (.invokevirtual 138, 3) := by decide +kernel
theorem dX8_ahead_61 : decode cX8_ahead 61 = .ok (.iload_n 3, 1) := by decide +kernel
theorem dX8_ahead_62 : decode cX8_ahead 62 = .ok (.if_icmp .ne 13, 3) := by decide +kernel
theorem dX8_ahead_65 : decode cX8_ahead 65 = .ok (.iload 4, 2) := by decide +kernel
theorem dX8_ahead_67 : decode cX8_ahead 67 = .ok (.iload_n 1, 1) := by decide +kernel
theorem dX8_ahead_68 : decode cX8_ahead 68 = .ok (.if_icmp .ge 7, 3) := by decide +kernel
theorem dX8_ahead_71 : decode cX8_ahead 71 = .ok (.iconst 1, 1) := by decide +kernel
theorem dX8_ahead_72 : decode cX8_ahead 72 = .ok (.goto 4, 3) := by decide +kernel
theorem dX8_ahead_75 : decode cX8_ahead 75 = .ok (.iconst 0, 1) := by decide +kernel
theorem dX8_ahead_76 : decode cX8_ahead 76 = .ok (.iadd, 1) := by decide +kernel
theorem dX8_ahead_77 : decode cX8_ahead 77 = .ok (.istore_n 2, 1) := by decide +kernel
theorem dX8_ahead_78 : decode cX8_ahead 78 = .ok (.iinc 4 1, 3) := by decide +kernel
theorem dX8_ahead_81 : decode cX8_ahead 81 = .ok (.goto (-63), 3) := by decide +kernel
theorem dX8_ahead_84 : decode cX8_ahead 84 = .ok (.iload_n 2, 1) := by decide +kernel
theorem dX8_ahead_85 : decode cX8_ahead 85 = .ok (.ireturn, 1) := by decide +kernel
set_option maxRecDepth 20000 in
theorem ggX8_bestOrder_X8_ahead : GoodIn wsX8_bestOrder wsX8_ahead := goodIn_ca (goodIn_r _ [7, 2, 8, 9, 10, 6, 11, 12, 13, 14, 15, 20, 21, 22, 23, 24, 25, 26, 27, 28, 29, 30, 31, 32, 33, 34, 35, 36, 37, 38] (by decide +kernel) (by decide +kernel)) (goodIn_sub (fun _ h => List.mem_cons_of_mem _ (List.mem_append_right _ h)) (by decide +kernel))
set_option maxRecDepth 20000 in
theorem gX8_bestOrder_X8_ahead : GoodIn wsX8_bestOrder (wsV RX8 159 RX8 yX8_ahead wsX8_ahead) := goodIn_app (goodIn_of _ (by decide +kernel)) ggX8_bestOrder_X8_ahead
set_option maxRecDepth 20000 in
theorem ggX8_bestOrder_X8_worth : GoodIn wsX8_bestOrder wsX8_worth := goodIn_ca (goodIn_r _ [11, 12, 13, 14, 6, 15, 2, 20, 21, 22, 23, 24, 25, 26, 27, 28, 29, 30, 31, 32, 33, 34, 35, 36, 37, 38] (by decide +kernel) (by decide +kernel)) (goodIn_sub (fun _ h => List.mem_cons_of_mem _ (List.mem_append_right _ h)) (by decide +kernel))
set_option maxRecDepth 20000 in
theorem gX8_bestOrder_X8_worth : GoodIn wsX8_bestOrder (wsV RX8 138 RX8 yX8_worth wsX8_worth) := goodIn_app (goodIn_of _ (by decide +kernel)) ggX8_bestOrder_X8_worth
set_option maxRecDepth 20000 in
theorem ggX8_bestOrder_X8_inOrder : GoodIn wsX8_bestOrder wsX8_inOrder := goodIn_ca (goodIn_r _ [19, 2, 8, 9, 10, 6, 11, 12, 13, 14, 15, 20, 21, 22, 23, 24, 25, 26, 27, 28, 29, 30, 31, 32, 33, 34, 35, 36, 37, 38] (by decide +kernel) (by decide +kernel)) (goodIn_sub (fun _ h => List.mem_cons_of_mem _ (List.mem_append_right _ h)) (by decide +kernel))
set_option maxRecDepth 20000 in
theorem gX8_bestOrder_X8_inOrder : GoodIn wsX8_bestOrder (wsV RX8 156 RX8 yX8_inOrder wsX8_inOrder) := goodIn_app (goodIn_of _ (by decide +kernel)) ggX8_bestOrder_X8_inOrder
theorem dX8_bestOrder_0 : decode cX8_bestOrder 0 = .ok (.aload_n 0, 1) := by decide +kernel
theorem dX8_bestOrder_1 : decode cX8_bestOrder 1 = .ok (.iconst 0, 1) := by decide +kernel
theorem dX8_bestOrder_2 : decode cX8_bestOrder 2 = .ok (.putfield 40, 3) := by decide +kernel
theorem dX8_bestOrder_5 : decode cX8_bestOrder 5 = .ok (.iconst 0, 1) := by decide +kernel
theorem dX8_bestOrder_6 : decode cX8_bestOrder 6 = .ok (.istore_n 1, 1) := by decide +kernel
theorem dX8_bestOrder_7 : decode cX8_bestOrder 7 = .ok (.iconst 0, 1) := by decide +kernel
theorem dX8_bestOrder_8 : decode cX8_bestOrder 8 = .ok (.istore_n 2, 1) := by decide +kernel
theorem dX8_bestOrder_9 : decode cX8_bestOrder 9 = .ok (.iload_n 2, 1) := by decide +kernel
theorem dX8_bestOrder_10 : decode cX8_bestOrder 10 = .ok (.aload_n 0, 1) := by decide +kernel
theorem dX8_bestOrder_11 : decode cX8_bestOrder 11 = .ok (.getfield 7, 3) := by decide +kernel
theorem dX8_bestOrder_14 : decode cX8_bestOrder 14 = .ok (.bipush 10, 2) := by decide +kernel
theorem dX8_bestOrder_16 : decode cX8_bestOrder 16 = .ok (.iaload, 1) := by decide +kernel
theorem dX8_bestOrder_17 : decode cX8_bestOrder 17 = .ok (.if_icmp .ge 30, 3) := by decide +kernel
theorem dX8_bestOrder_20 : decode cX8_bestOrder 20 = .ok (.iload_n 1, 1) := by decide +kernel
theorem dX8_bestOrder_21 : decode cX8_bestOrder 21 = .ok (.aload_n 0, 1) := by decide +kernel
theorem dX8_bestOrder_22 : decode cX8_bestOrder 22 = .ok (.iload_n 2, 1) := by decide +kernel
theorem dX8_bestOrder_23 : decode cX8_bestOrder 23 = .ok (.aload_n 0, 1) := by decide +kernel
theorem dX8_bestOrder_24 : decode cX8_bestOrder 24 = .ok (.getfield 7, 3) := by decide +kernel
theorem dX8_bestOrder_27 : decode cX8_bestOrder 27 = .ok (.bipush 7, 2) := by decide +kernel
theorem dX8_bestOrder_29 : decode cX8_bestOrder 29 = .ok (.iaload, 1) := by decide +kernel
theorem dX8_bestOrder_30 : decode cX8_bestOrder 30 = .ok (.aload_n 0, 1) := by decide +kernel
theorem dX8_bestOrder_31 : decode cX8_bestOrder 31 = .ok (.iload_n 2, 1) := by decide +kernel
theorem dX8_bestOrder_32 : decode cX8_bestOrder 32 = .ok (.invokevirtual 159, 3) := by decide +kernel
theorem dX8_bestOrder_35 : decode cX8_bestOrder 35 = .ok (.iadd, 1) := by decide +kernel
theorem dX8_bestOrder_36 : decode cX8_bestOrder 36 = .ok (.invokevirtual 138, 3) := by decide +kernel
theorem dX8_bestOrder_39 : decode cX8_bestOrder 39 = .ok (.iadd, 1) := by decide +kernel
theorem dX8_bestOrder_40 : decode cX8_bestOrder 40 = .ok (.istore_n 1, 1) := by decide +kernel
theorem dX8_bestOrder_41 : decode cX8_bestOrder 41 = .ok (.iinc 2 1, 3) := by decide +kernel
theorem dX8_bestOrder_44 : decode cX8_bestOrder 44 = .ok (.goto (-35), 3) := by decide +kernel
theorem dX8_bestOrder_47 : decode cX8_bestOrder 47 = .ok (.iload_n 1, 1) := by decide +kernel
theorem dX8_bestOrder_48 : decode cX8_bestOrder 48 = .ok (.aload_n 0, 1) := by decide +kernel
theorem dX8_bestOrder_49 : decode cX8_bestOrder 49 = .ok (.invokevirtual 156, 3) := by decide +kernel
theorem dX8_bestOrder_52 : decode cX8_bestOrder 52 = .ok (.isub, 1) := by decide +kernel
theorem dX8_bestOrder_53 : decode cX8_bestOrder 53 = .ok (.ireturn, 1) := by decide +kernel
set_option maxRecDepth 20000 in
theorem ggX8_wouldMend_X8_isReject : GoodIn wsX8_wouldMend wsX8_isReject := goodIn_ca (goodIn_r _ [5, 6, 7, 8, 4, 9, 31, 32, 33, 34, 35, 36, 37, 38, 39, 40, 41, 42, 43, 44, 45, 46, 47, 48, 49] (by decide +kernel) (by decide +kernel)) (goodIn_sub (fun _ h => List.mem_cons_of_mem _ (List.mem_append_right _ h)) (by decide +kernel))
set_option maxRecDepth 20000 in
theorem gX8_wouldMend_X8_isReject : GoodIn wsX8_wouldMend (wsV RX8 135 RX8 yX8_isReject wsX8_isReject) := goodIn_app (goodIn_of _ (by decide +kernel)) ggX8_wouldMend_X8_isReject
set_option maxRecDepth 20000 in
theorem ggX8_wouldMend_X8_fails : GoodIn wsX8_wouldMend wsX8_fails := goodIn_r _ [13, 14, 15, 31, 32, 33, 34, 35, 36, 37, 38, 39, 40, 41, 42, 43, 44, 45, 46, 47, 48, 49] (by decide +kernel) (by decide +kernel)
set_option maxRecDepth 20000 in
theorem gX8_wouldMend_X8_fails : GoodIn wsX8_wouldMend (wsV RX8 79 RX8 yX8_fails wsX8_fails) := goodIn_app (goodIn_of _ (by decide +kernel)) ggX8_wouldMend_X8_fails
set_option maxRecDepth 20000 in
theorem ggX8_wouldMend_X8_its : GoodIn wsX8_wouldMend wsX8_its := goodIn_ca (goodIn_r _ [19, 6, 31, 32, 33, 34, 35, 36, 37, 38, 39, 40, 41, 42, 43, 44, 45, 46, 47, 48, 49] (by decide +kernel) (by decide +kernel)) (goodIn_sub (fun _ h => List.mem_cons_of_mem _ (List.mem_append_right _ h)) (by decide +kernel))
set_option maxRecDepth 20000 in
theorem gX8_wouldMend_X8_its : GoodIn wsX8_wouldMend (wsV RX8 132 RX8 yX8_its wsX8_its) := goodIn_app (goodIn_of _ (by decide +kernel)) ggX8_wouldMend_X8_its
set_option maxRecDepth 20000 in
theorem ggX8_wouldMend_X8_within : GoodIn wsX8_wouldMend wsX8_within := goodIn_r _ [22] (by decide +kernel) (by decide +kernel)
set_option maxRecDepth 20000 in
theorem gX8_wouldMend_X8_within : GoodIn wsX8_wouldMend (va_wsS RX8 105 yX8_within wsX8_within) := goodIn_app (goodIn_of _ (by decide +kernel)) ggX8_wouldMend_X8_within
set_option maxRecDepth 20000 in
theorem ggX8_wouldMend_X8_isPassed : GoodIn wsX8_wouldMend wsX8_isPassed := goodIn_ca (goodIn_r _ [26, 27, 28, 29, 4, 30, 6, 31, 32, 33, 34, 35, 36, 37, 38, 39, 40, 41, 42, 43, 44, 45, 46, 47, 48, 49] (by decide +kernel) (by decide +kernel)) (goodIn_sub (fun _ h => List.mem_cons_of_mem _ (List.mem_append_right _ h)) (by decide +kernel))
set_option maxRecDepth 20000 in
theorem gX8_wouldMend_X8_isPassed : GoodIn wsX8_wouldMend (wsV RX8 101 RX8 yX8_isPassed wsX8_isPassed) := goodIn_app (goodIn_of _ (by decide +kernel)) ggX8_wouldMend_X8_isPassed
theorem dX8_wouldMend_0 : decode cX8_wouldMend 0 = .ok (.aload_n 0, 1) := by decide +kernel
theorem dX8_wouldMend_1 : decode cX8_wouldMend 1 = .ok (.aload_n 0, 1) := by decide +kernel
theorem dX8_wouldMend_2 : decode cX8_wouldMend 2 = .ok (.iload_n 1, 1) := by decide +kernel
theorem dX8_wouldMend_3 : decode cX8_wouldMend 3 = .ok (.invokevirtual 135, 3) := by decide +kernel
theorem dX8_wouldMend_6 : decode cX8_wouldMend 6 = .ok (.ifCond .eq 7, 3) := by decide +kernel
theorem dX8_wouldMend_9 : decode cX8_wouldMend 9 = .ok (.iconst 0, 1) := by decide +kernel
theorem dX8_wouldMend_10 : decode cX8_wouldMend 10 = .ok (.goto 4, 3) := by decide +kernel
theorem dX8_wouldMend_13 : decode cX8_wouldMend 13 = .ok (.iconst 1, 1) := by decide +kernel
theorem dX8_wouldMend_14 : decode cX8_wouldMend 14 = .ok (.invokevirtual 79, 3) := by decide +kernel
theorem dX8_wouldMend_17 : decode cX8_wouldMend 17 = .ok (.ifCond .eq 5, 3) := by decide +kernel
theorem dX8_wouldMend_20 : decode cX8_wouldMend 20 = .ok (.iconst 0, 1) := by decide +kernel
theorem dX8_wouldMend_21 : decode cX8_wouldMend 21 = .ok (.ireturn, 1) := by decide +kernel
theorem dX8_wouldMend_22 : decode cX8_wouldMend 22 = .ok (.aload_n 0, 1) := by decide +kernel
theorem dX8_wouldMend_23 : decode cX8_wouldMend 23 = .ok (.iload_n 1, 1) := by decide +kernel
theorem dX8_wouldMend_24 : decode cX8_wouldMend 24 = .ok (.iconst 0, 1) := by decide +kernel
theorem dX8_wouldMend_25 : decode cX8_wouldMend 25 = .ok (.invokevirtual 132, 3) := by decide +kernel
theorem dX8_wouldMend_28 : decode cX8_wouldMend 28 = .ok (.iconst 2, 1) := by decide +kernel
theorem dX8_wouldMend_29 : decode cX8_wouldMend 29 = .ok (.iadd, 1) := by decide +kernel
theorem dX8_wouldMend_30 : decode cX8_wouldMend 30 = .ok (.iconst 0, 1) := by decide +kernel
theorem dX8_wouldMend_31 : decode cX8_wouldMend 31 = .ok (.bipush 9, 2) := by decide +kernel
theorem dX8_wouldMend_33 : decode cX8_wouldMend 33 = .ok (.invokestatic 105, 3) := by decide +kernel
theorem dX8_wouldMend_36 : decode cX8_wouldMend 36 = .ok (.istore_n 2, 1) := by decide +kernel
theorem dX8_wouldMend_37 : decode cX8_wouldMend 37 = .ok (.aload_n 0, 1) := by decide +kernel
theorem dX8_wouldMend_38 : decode cX8_wouldMend 38 = .ok (.iload_n 1, 1) := by decide +kernel
theorem dX8_wouldMend_39 : decode cX8_wouldMend 39 = .ok (.iconst 1, 1) := by decide +kernel
theorem dX8_wouldMend_40 : decode cX8_wouldMend 40 = .ok (.invokevirtual 132, 3) := by decide +kernel
theorem dX8_wouldMend_43 : decode cX8_wouldMend 43 = .ok (.iconst 1, 1) := by decide +kernel
theorem dX8_wouldMend_44 : decode cX8_wouldMend 44 = .ok (.isub, 1) := by decide +kernel
theorem dX8_wouldMend_45 : decode cX8_wouldMend 45 = .ok (.iconst 4, 1) := by decide +kernel
theorem dX8_wouldMend_46 : decode cX8_wouldMend 46 = .ok (.bipush 9, 2) := by decide +kernel
theorem dX8_wouldMend_48 : decode cX8_wouldMend 48 = .ok (.invokestatic 105, 3) := by decide +kernel
theorem dX8_wouldMend_51 : decode cX8_wouldMend 51 = .ok (.istore_n 3, 1) := by decide +kernel
theorem dX8_wouldMend_52 : decode cX8_wouldMend 52 = .ok (.aload_n 0, 1) := by decide +kernel
theorem dX8_wouldMend_53 : decode cX8_wouldMend 53 = .ok (.iconst 0, 1) := by decide +kernel
theorem dX8_wouldMend_54 : decode cX8_wouldMend 54 = .ok (.iload_n 2, 1) := by decide +kernel
theorem dX8_wouldMend_55 : decode cX8_wouldMend 55 = .ok (.iload_n 3, 1) := by decide +kernel
theorem dX8_wouldMend_56 : decode cX8_wouldMend 56 = .ok (.iconst 1, 1) := by decide +kernel
theorem dX8_wouldMend_57 : decode cX8_wouldMend 57 = .ok (.invokevirtual 101, 3) := by decide +kernel
theorem dX8_wouldMend_60 : decode cX8_wouldMend 60 = .ok (.ifCond .eq 29, 3) := by decide +kernel
theorem dX8_wouldMend_63 : decode cX8_wouldMend 63 = .ok (.aload_n 0, 1) := by decide +kernel
theorem dX8_wouldMend_64 : decode cX8_wouldMend 64 = .ok (.iconst 0, 1) := by decide +kernel
theorem dX8_wouldMend_65 : decode cX8_wouldMend 65 = .ok (.iload_n 2, 1) := by decide +kernel
theorem dX8_wouldMend_66 : decode cX8_wouldMend 66 = .ok (.iload_n 3, 1) := by decide +kernel
theorem dX8_wouldMend_67 : decode cX8_wouldMend 67 = .ok (.iconst 2, 1) := by decide +kernel
theorem dX8_wouldMend_68 : decode cX8_wouldMend 68 = .ok (.invokevirtual 101, 3) := by decide +kernel
theorem dX8_wouldMend_71 : decode cX8_wouldMend 71 = .ok (.ifCond .eq 18, 3) := by decide +kernel
theorem dX8_wouldMend_74 : decode cX8_wouldMend 74 = .ok (.aload_n 0, 1) := by decide +kernel
theorem dX8_wouldMend_75 : decode cX8_wouldMend 75 = .ok (.iconst 0, 1) := by decide +kernel
theorem dX8_wouldMend_76 : decode cX8_wouldMend 76 = .ok (.iload_n 2, 1) := by decide +kernel
theorem dX8_wouldMend_77 : decode cX8_wouldMend 77 = .ok (.iload_n 3, 1) := by decide +kernel
theorem dX8_wouldMend_78 : decode cX8_wouldMend 78 = .ok (.iconst 3, 1) := by decide +kernel
theorem dX8_wouldMend_79 : decode cX8_wouldMend 79 = .ok (.invokevirtual 101, 3) := by decide +kernel
theorem dX8_wouldMend_82 : decode cX8_wouldMend 82 = .ok (.ifCond .eq 7, 3) := by decide +kernel
theorem dX8_wouldMend_85 : decode cX8_wouldMend 85 = .ok (.iconst 1, 1) := by decide +kernel
theorem dX8_wouldMend_86 : decode cX8_wouldMend 86 = .ok (.goto 4, 3) := by decide +kernel
theorem dX8_wouldMend_89 : decode cX8_wouldMend 89 = .ok (.iconst 0, 1) := by decide +kernel
theorem dX8_wouldMend_90 : decode cX8_wouldMend 90 = .ok (.ireturn, 1) := by decide +kernel
theorem dX8_fresh_0 : decode cX8_fresh 0 = .ok (.iconst 0, 1) := by decide +kernel
theorem dX8_fresh_1 : decode cX8_fresh 1 = .ok (.istore_n 2, 1) := by decide +kernel
theorem dX8_fresh_2 : decode cX8_fresh 2 = .ok (.iload_n 2, 1) := by decide +kernel
theorem dX8_fresh_3 : decode cX8_fresh 3 = .ok (.aload_n 0, 1) := by decide +kernel
theorem dX8_fresh_4 : decode cX8_fresh 4 = .ok (.getfield 7, 3) := by decide +kernel
theorem dX8_fresh_7 : decode cX8_fresh 7 = .ok (.bipush 9, 2) := by decide +kernel
theorem dX8_fresh_9 : decode cX8_fresh 9 = .ok (.iaload, 1) := by decide +kernel
theorem dX8_fresh_10 : decode cX8_fresh 10 = .ok (.if_icmp .ge 105, 3) := by decide +kernel
theorem dX8_fresh_13 : decode cX8_fresh 13 = .ok (.iconst 0, 1) := by decide +kernel
theorem dX8_fresh_14 : decode cX8_fresh 14 = .ok (.istore_n 3, 1) := by decide +kernel
theorem dX8_fresh_15 : decode cX8_fresh 15 = .ok (.iconst 0, 1) := by decide +kernel
theorem dX8_fresh_16 : decode cX8_fresh 16 = .ok (.istore 4, 2) := by decide +kernel
theorem dX8_fresh_18 : decode cX8_fresh 18 = .ok (.iload 4, 2) := by decide +kernel
theorem dX8_fresh_20 : decode cX8_fresh 20 = .ok (.aload_n 0, 1) := by decide +kernel
theorem dX8_fresh_21 : decode cX8_fresh 21 = .ok (.getfield 7, 3) := by decide +kernel
theorem dX8_fresh_24 : decode cX8_fresh 24 = .ok (.bipush 9, 2) := by decide +kernel
theorem dX8_fresh_26 : decode cX8_fresh 26 = .ok (.iaload, 1) := by decide +kernel
theorem dX8_fresh_27 : decode cX8_fresh 27 = .ok (.if_icmp .ge 67, 3) := by decide +kernel
theorem dX8_fresh_30 : decode cX8_fresh 30 = .ok (.iload_n 3, 1) := by decide +kernel
theorem dX8_fresh_31 : decode cX8_fresh 31 = .ok (.aload_n 0, 1) := by decide +kernel
theorem dX8_fresh_32 : decode cX8_fresh 32 = .ok (.getfield 7, 3) := by decide +kernel
theorem dX8_fresh_35 : decode cX8_fresh 35 = .ok (.bipush 11, 2) := by decide +kernel
theorem dX8_fresh_37 : decode cX8_fresh 37 = .ok (.iload 4, 2) := by decide +kernel
theorem dX8_fresh_39 : decode cX8_fresh 39 = .ok (.iadd, 1) := by decide +kernel
theorem dX8_fresh_40 : decode cX8_fresh 40 = .ok (.iaload, 1) := by decide +kernel
theorem dX8_fresh_41 : decode cX8_fresh 41 = .ok (.aload_n 0, 1) := by decide +kernel
theorem dX8_fresh_42 : decode cX8_fresh 42 = .ok (.getfield 7, 3) := by decide +kernel
theorem dX8_fresh_45 : decode cX8_fresh 45 = .ok (.bipush 11, 2) := by decide +kernel
theorem dX8_fresh_47 : decode cX8_fresh 47 = .ok (.iload_n 2, 1) := by decide +kernel
theorem dX8_fresh_48 : decode cX8_fresh 48 = .ok (.iadd, 1) := by decide +kernel
theorem dX8_fresh_49 : decode cX8_fresh 49 = .ok (.iaload, 1) := by decide +kernel
theorem dX8_fresh_50 : decode cX8_fresh 50 = .ok (.if_icmp .lt 31, 3) := by decide +kernel
theorem dX8_fresh_53 : decode cX8_fresh 53 = .ok (.aload_n 0, 1) := by decide +kernel
theorem dX8_fresh_54 : decode cX8_fresh 54 = .ok (.getfield 7, 3) := by decide +kernel
theorem dX8_fresh_57 : decode cX8_fresh 57 = .ok (.bipush 11, 2) := by decide +kernel
theorem dX8_fresh_59 : decode cX8_fresh 59 = .ok (.iload 4, 2) := by decide +kernel
theorem dX8_fresh_61 : decode cX8_fresh 61 = .ok (.iadd, 1) := by decide +kernel
theorem dX8_fresh_62 : decode cX8_fresh 62 = .ok (.iaload, 1) := by decide +kernel
theorem dX8_fresh_63 : decode cX8_fresh 63 = .ok (.aload_n 0, 1) := by decide +kernel
theorem dX8_fresh_64 : decode cX8_fresh 64 = .ok (.getfield 7, 3) := by decide +kernel
theorem dX8_fresh_67 : decode cX8_fresh 67 = .ok (.bipush 11, 2) := by decide +kernel
theorem dX8_fresh_69 : decode cX8_fresh 69 = .ok (.iload_n 2, 1) := by decide +kernel
theorem dX8_fresh_70 : decode cX8_fresh 70 = .ok (.iadd, 1) := by decide +kernel
theorem dX8_fresh_71 : decode cX8_fresh 71 = .ok (.iaload, 1) := by decide +kernel
theorem dX8_fresh_72 : decode cX8_fresh 72 = .ok (.if_icmp .ne 13, 3) := by decide +kernel
theorem dX8_fresh_75 : decode cX8_fresh 75 = .ok (.iload 4, 2) := by decide +kernel
theorem dX8_fresh_77 : decode cX8_fresh 77 = .ok (.iload_n 2, 1) := by decide +kernel
theorem dX8_fresh_78 : decode cX8_fresh 78 = .ok (.if_icmp .ge 7, 3) := by decide +kernel
theorem dX8_fresh_81 : decode cX8_fresh 81 = .ok (.iconst 1, 1) := by decide +kernel
theorem dX8_fresh_82 : decode cX8_fresh 82 = .ok (.goto 4, 3) := by decide +kernel
theorem dX8_fresh_85 : decode cX8_fresh 85 = .ok (.iconst 0, 1) := by decide +kernel
theorem dX8_fresh_86 : decode cX8_fresh 86 = .ok (.iadd, 1) := by decide +kernel
theorem dX8_fresh_87 : decode cX8_fresh 87 = .ok (.istore_n 3, 1) := by decide +kernel
theorem dX8_fresh_88 : decode cX8_fresh 88 = .ok (.iinc 4 1, 3) := by decide +kernel
theorem dX8_fresh_91 : decode cX8_fresh 91 = .ok (.goto (-73), 3) := by decide +kernel
theorem dX8_fresh_94 : decode cX8_fresh 94 = .ok (.iload_n 3, 1) := by decide +kernel
theorem dX8_fresh_95 : decode cX8_fresh 95 = .ok (.iload_n 1, 1) := by decide +kernel
theorem dX8_fresh_96 : decode cX8_fresh 96 = .ok (.if_icmp .eq 6, 3) := by decide +kernel
theorem dX8_fresh_99 : decode cX8_fresh 99 = .ok (.goto 10, 3) := by decide +kernel
theorem dX8_fresh_102 : decode cX8_fresh 102 = .ok (.aload_n 0, 1) := by decide +kernel
theorem dX8_fresh_103 : decode cX8_fresh 103 = .ok (.iconst 0, 1) := by decide +kernel
theorem dX8_fresh_104 : decode cX8_fresh 104 = .ok (.putfield 40, 3) := by decide +kernel
theorem dX8_fresh_107 : decode cX8_fresh 107 = .ok (.iload_n 2, 1) := by decide +kernel
theorem dX8_fresh_108 : decode cX8_fresh 108 = .ok (.ireturn, 1) := by decide +kernel
theorem dX8_fresh_109 : decode cX8_fresh 109 = .ok (.iinc 2 1, 3) := by decide +kernel
theorem dX8_fresh_112 : decode cX8_fresh 112 = .ok (.goto (-110), 3) := by decide +kernel
theorem dX8_fresh_115 : decode cX8_fresh 115 = .ok (.aload_n 0, 1) := by decide +kernel
theorem dX8_fresh_116 : decode cX8_fresh 116 = .ok (.iconst 1, 1) := by decide +kernel
theorem dX8_fresh_117 : decode cX8_fresh 117 = .ok (.putfield 40, 3) := by decide +kernel
theorem dX8_fresh_120 : decode cX8_fresh 120 = .ok (.iconst 0, 1) := by decide +kernel
theorem dX8_fresh_121 : decode cX8_fresh 121 = .ok (.ireturn, 1) := by decide +kernel
set_option maxRecDepth 20000 in
theorem ggX8_greys_X8_of : GoodIn wsX8_greys wsX8_of := goodIn_ca (goodIn_r _ [5, 6, 15, 16, 17, 18, 19, 20, 21, 22, 23, 24, 25, 26, 27, 28, 29, 30, 31, 32, 33] (by decide +kernel) (by decide +kernel)) (goodIn_sub (fun _ h => List.mem_cons_of_mem _ (List.mem_append_right _ h)) (by decide +kernel))
set_option maxRecDepth 20000 in
theorem gX8_greys_X8_of : GoodIn wsX8_greys (wsV RX8 63 RX8 yX8_of wsX8_of) := goodIn_app (goodIn_of _ (by decide +kernel)) ggX8_greys_X8_of
set_option maxRecDepth 20000 in
theorem ggX8_greys_X8_isBlank : GoodIn wsX8_greys wsX8_isBlank := goodIn_ca (goodIn_r _ [10, 11, 12, 13, 4, 14, 1, 2, 3, 5, 6, 15, 16, 17, 18, 19, 20, 21, 22, 23, 24, 25, 26, 27, 28, 29, 30, 31, 32, 33] (by decide +kernel) (by decide +kernel)) (goodIn_sub (fun _ h => List.mem_cons_of_mem _ (List.mem_append_right _ h)) (by decide +kernel))
set_option maxRecDepth 20000 in
theorem gX8_greys_X8_isBlank : GoodIn wsX8_greys (wsV RX8 93 RX8 yX8_isBlank wsX8_isBlank) := goodIn_app (goodIn_of _ (by decide +kernel)) ggX8_greys_X8_isBlank
set_option maxRecDepth 20000 in
theorem ggX8_greys_X8_on : GoodIn wsX8_greys wsX8_on := goodIn_ca (goodIn_r _ [14, 1, 2, 3, 4, 5, 6, 15, 16, 17, 18, 19, 20, 21, 22, 23, 24, 25, 26, 27, 28, 29, 30, 31, 32, 33] (by decide +kernel) (by decide +kernel)) (goodIn_sub (fun _ h => List.mem_cons_of_mem _ (List.mem_append_right _ h)) (by decide +kernel))
set_option maxRecDepth 20000 in
theorem gX8_greys_X8_on : GoodIn wsX8_greys (wsV RX8 67 RX8 yX8_on wsX8_on) := goodIn_app (goodIn_of _ (by decide +kernel)) ggX8_greys_X8_on
theorem dX8_greys_0 : decode cX8_greys 0 = .ok (.iconst 0, 1) := by decide +kernel
theorem dX8_greys_1 : decode cX8_greys 1 = .ok (.istore_n 2, 1) := by decide +kernel
theorem dX8_greys_2 : decode cX8_greys 2 = .ok (.iconst 0, 1) := by decide +kernel
theorem dX8_greys_3 : decode cX8_greys 3 = .ok (.istore_n 3, 1) := by decide +kernel
theorem dX8_greys_4 : decode cX8_greys 4 = .ok (.iload_n 3, 1) := by decide +kernel
theorem dX8_greys_5 : decode cX8_greys 5 = .ok (.aload_n 0, 1) := by decide +kernel
theorem dX8_greys_6 : decode cX8_greys 6 = .ok (.iload_n 1, 1) := by decide +kernel
theorem dX8_greys_7 : decode cX8_greys 7 = .ok (.iconst 0, 1) := by decide +kernel
theorem dX8_greys_8 : decode cX8_greys 8 = .ok (.invokevirtual 63, 3) := by decide +kernel
theorem dX8_greys_11 : decode cX8_greys 11 = .ok (.if_icmp .ge 32, 3) := by decide +kernel
theorem dX8_greys_14 : decode cX8_greys 14 = .ok (.iload_n 2, 1) := by decide +kernel
theorem dX8_greys_15 : decode cX8_greys 15 = .ok (.aload_n 0, 1) := by decide +kernel
theorem dX8_greys_16 : decode cX8_greys 16 = .ok (.iload_n 1, 1) := by decide +kernel
theorem dX8_greys_17 : decode cX8_greys 17 = .ok (.iload_n 3, 1) := by decide +kernel
theorem dX8_greys_18 : decode cX8_greys 18 = .ok (.invokevirtual 93, 3) := by decide +kernel
theorem dX8_greys_21 : decode cX8_greys 21 = .ok (.ifCond .eq 7, 3) := by decide +kernel
theorem dX8_greys_24 : decode cX8_greys 24 = .ok (.iconst 0, 1) := by decide +kernel
theorem dX8_greys_25 : decode cX8_greys 25 = .ok (.goto 10, 3) := by decide +kernel
theorem dX8_greys_28 : decode cX8_greys 28 = .ok (.aload_n 0, 1) := by decide +kernel
theorem dX8_greys_29 : decode cX8_greys 29 = .ok (.iload_n 1, 1) := by decide +kernel
theorem dX8_greys_30 : decode cX8_greys 30 = .ok (.iload_n 3, 1) := by decide +kernel
theorem dX8_greys_31 : decode cX8_greys 31 = .ok (.iconst 1, 1) := by decide +kernel
theorem dX8_greys_32 : decode cX8_greys 32 = .ok (.invokevirtual 67, 3) := by decide +kernel
theorem dX8_greys_35 : decode cX8_greys 35 = .ok (.iadd, 1) := by decide +kernel
theorem dX8_greys_36 : decode cX8_greys 36 = .ok (.istore_n 2, 1) := by decide +kernel
theorem dX8_greys_37 : decode cX8_greys 37 = .ok (.iinc 3 1, 3) := by decide +kernel
theorem dX8_greys_40 : decode cX8_greys 40 = .ok (.goto (-36), 3) := by decide +kernel
theorem dX8_greys_43 : decode cX8_greys 43 = .ok (.iload_n 2, 1) := by decide +kernel
theorem dX8_greys_44 : decode cX8_greys 44 = .ok (.ireturn, 1) := by decide +kernel
set_option maxRecDepth 20000 in
theorem ggX8_isGreyer_X8_greys : GoodIn wsX8_isGreyer wsX8_greys := goodIn_ca (goodIn_r _ [5, 6, 7, 8, 4, 9, 10, 11, 12, 13, 14, 15, 16, 17, 18, 19, 20, 21, 22, 23, 24, 25, 26, 27, 28, 29, 30, 31, 32, 33, 34, 35, 36, 37] (by decide +kernel) (by decide +kernel)) (goodIn_sub (fun _ h => List.mem_cons_of_mem _ (List.mem_append_right _ h)) (by decide +kernel))
set_option maxRecDepth 20000 in
theorem gX8_isGreyer_X8_greys : GoodIn wsX8_isGreyer (wsV RX8 162 RX8 yX8_greys wsX8_greys) := goodIn_app (goodIn_of _ (by decide +kernel)) ggX8_isGreyer_X8_greys
set_option maxRecDepth 20000 in
theorem ggX8_isGreyer_X8_of : GoodIn wsX8_isGreyer wsX8_of := goodIn_ca (goodIn_r _ [9, 10, 19, 20, 21, 22, 23, 24, 25, 26, 27, 28, 29, 30, 31, 32, 33, 34, 35, 36, 37] (by decide +kernel) (by decide +kernel)) (goodIn_sub (fun _ h => List.mem_cons_of_mem _ (List.mem_append_right _ h)) (by decide +kernel))
set_option maxRecDepth 20000 in
theorem gX8_isGreyer_X8_of : GoodIn wsX8_isGreyer (wsV RX8 63 RX8 yX8_of wsX8_of) := goodIn_app (goodIn_of _ (by decide +kernel)) ggX8_isGreyer_X8_of
theorem dX8_isGreyer_0 : decode cX8_isGreyer 0 = .ok (.aload_n 0, 1) := by decide +kernel
theorem dX8_isGreyer_1 : decode cX8_isGreyer 1 = .ok (.iload_n 1, 1) := by decide +kernel
theorem dX8_isGreyer_2 : decode cX8_isGreyer 2 = .ok (.invokevirtual 162, 3) := by decide +kernel
theorem dX8_isGreyer_5 : decode cX8_isGreyer 5 = .ok (.aload_n 0, 1) := by decide +kernel
theorem dX8_isGreyer_6 : decode cX8_isGreyer 6 = .ok (.iload_n 2, 1) := by decide +kernel
theorem dX8_isGreyer_7 : decode cX8_isGreyer 7 = .ok (.invokevirtual 162, 3) := by decide +kernel
theorem dX8_isGreyer_10 : decode cX8_isGreyer 10 = .ok (.isub, 1) := by decide +kernel
theorem dX8_isGreyer_11 : decode cX8_isGreyer 11 = .ok (.istore_n 3, 1) := by decide +kernel
theorem dX8_isGreyer_12 : decode cX8_isGreyer 12 = .ok (.iload_n 3, 1) := by decide +kernel
theorem dX8_isGreyer_13 : decode cX8_isGreyer 13 = .ok (.ifCond .eq 13, 3) := by decide +kernel
theorem dX8_isGreyer_16 : decode cX8_isGreyer 16 = .ok (.iload_n 3, 1) := by decide +kernel
theorem dX8_isGreyer_17 : decode cX8_isGreyer 17 = .ok (.ifCond .le 7, 3) := by decide +kernel
theorem dX8_isGreyer_20 : decode cX8_isGreyer 20 = .ok (.iconst 1, 1) := by decide +kernel
theorem dX8_isGreyer_21 : decode cX8_isGreyer 21 = .ok (.goto 4, 3) := by decide +kernel
theorem dX8_isGreyer_24 : decode cX8_isGreyer 24 = .ok (.iconst 0, 1) := by decide +kernel
theorem dX8_isGreyer_25 : decode cX8_isGreyer 25 = .ok (.ireturn, 1) := by decide +kernel
theorem dX8_isGreyer_26 : decode cX8_isGreyer 26 = .ok (.aload_n 0, 1) := by decide +kernel
theorem dX8_isGreyer_27 : decode cX8_isGreyer 27 = .ok (.iload_n 1, 1) := by decide +kernel
theorem dX8_isGreyer_28 : decode cX8_isGreyer 28 = .ok (.iconst 0, 1) := by decide +kernel
theorem dX8_isGreyer_29 : decode cX8_isGreyer 29 = .ok (.invokevirtual 63, 3) := by decide +kernel
theorem dX8_isGreyer_32 : decode cX8_isGreyer 32 = .ok (.aload_n 0, 1) := by decide +kernel
theorem dX8_isGreyer_33 : decode cX8_isGreyer 33 = .ok (.iload_n 2, 1) := by decide +kernel
theorem dX8_isGreyer_34 : decode cX8_isGreyer 34 = .ok (.iconst 0, 1) := by decide +kernel
theorem dX8_isGreyer_35 : decode cX8_isGreyer 35 = .ok (.invokevirtual 63, 3) := by decide +kernel
theorem dX8_isGreyer_38 : decode cX8_isGreyer 38 = .ok (.isub, 1) := by decide +kernel
theorem dX8_isGreyer_39 : decode cX8_isGreyer 39 = .ok (.istore 4, 2) := by decide +kernel
theorem dX8_isGreyer_41 : decode cX8_isGreyer 41 = .ok (.iload 4, 2) := by decide +kernel
theorem dX8_isGreyer_43 : decode cX8_isGreyer 43 = .ok (.ifCond .gt 13, 3) := by decide +kernel
theorem dX8_isGreyer_46 : decode cX8_isGreyer 46 = .ok (.iload 4, 2) := by decide +kernel
theorem dX8_isGreyer_48 : decode cX8_isGreyer 48 = .ok (.ifCond .ne 12, 3) := by decide +kernel
theorem dX8_isGreyer_51 : decode cX8_isGreyer 51 = .ok (.iload_n 1, 1) := by decide +kernel
theorem dX8_isGreyer_52 : decode cX8_isGreyer 52 = .ok (.iload_n 2, 1) := by decide +kernel
theorem dX8_isGreyer_53 : decode cX8_isGreyer 53 = .ok (.if_icmp .ge 7, 3) := by decide +kernel
theorem dX8_isGreyer_56 : decode cX8_isGreyer 56 = .ok (.iconst 1, 1) := by decide +kernel
theorem dX8_isGreyer_57 : decode cX8_isGreyer 57 = .ok (.goto 4, 3) := by decide +kernel
theorem dX8_isGreyer_60 : decode cX8_isGreyer 60 = .ok (.iconst 0, 1) := by decide +kernel
theorem dX8_isGreyer_61 : decode cX8_isGreyer 61 = .ok (.ireturn, 1) := by decide +kernel
set_option maxRecDepth 20000 in
theorem ggX8_greyest_X8_isGreyer : GoodIn wsX8_greyest wsX8_isGreyer := goodIn_ca (goodIn_r _ [6, 7, 8, 9, 5, 10, 11, 12, 13, 14, 15, 16, 17, 18, 19, 20, 21, 22, 23, 24, 25, 26, 27, 28, 29, 30, 31, 32, 33, 34, 35, 36, 37, 38, 39, 40, 41, 42] (by decide +kernel) (by decide +kernel)) (goodIn_sub (fun _ h => List.mem_cons_of_mem _ (List.mem_append_right _ h)) (by decide +kernel))
set_option maxRecDepth 20000 in
theorem gX8_greyest_X8_isGreyer : GoodIn wsX8_greyest (wsV RX8 165 RX8 yX8_isGreyer wsX8_isGreyer) := goodIn_app (goodIn_of _ (by decide +kernel)) ggX8_greyest_X8_isGreyer
theorem dX8_greyest_0 : decode cX8_greyest 0 = .ok (.iconst 0, 1) := by decide +kernel
theorem dX8_greyest_1 : decode cX8_greyest 1 = .ok (.istore_n 2, 1) := by decide +kernel
theorem dX8_greyest_2 : decode cX8_greyest 2 = .ok (.iload_n 2, 1) := by decide +kernel
theorem dX8_greyest_3 : decode cX8_greyest 3 = .ok (.iconst 3, 1) := by decide +kernel
theorem dX8_greyest_4 : decode cX8_greyest 4 = .ok (.if_icmp .ge 59, 3) := by decide +kernel
theorem dX8_greyest_7 : decode cX8_greyest 7 = .ok (.iconst 0, 1) := by decide +kernel
theorem dX8_greyest_8 : decode cX8_greyest 8 = .ok (.istore_n 3, 1) := by decide +kernel
theorem dX8_greyest_9 : decode cX8_greyest 9 = .ok (.iconst 0, 1) := by decide +kernel
theorem dX8_greyest_10 : decode cX8_greyest 10 = .ok (.istore 4, 2) := by decide +kernel
theorem dX8_greyest_12 : decode cX8_greyest 12 = .ok (.iload 4, 2) := by decide +kernel
theorem dX8_greyest_14 : decode cX8_greyest 14 = .ok (.iconst 3, 1) := by decide +kernel
theorem dX8_greyest_15 : decode cX8_greyest 15 = .ok (.if_icmp .ge 27, 3) := by decide +kernel
theorem dX8_greyest_18 : decode cX8_greyest 18 = .ok (.iload_n 3, 1) := by decide +kernel
theorem dX8_greyest_19 : decode cX8_greyest 19 = .ok (.aload_n 0, 1) := by decide +kernel
theorem dX8_greyest_20 : decode cX8_greyest 20 = .ok (.iload 4, 2) := by decide +kernel
theorem dX8_greyest_22 : decode cX8_greyest 22 = .ok (.iload_n 2, 1) := by decide +kernel
theorem dX8_greyest_23 : decode cX8_greyest 23 = .ok (.invokevirtual 165, 3) := by decide +kernel
theorem dX8_greyest_26 : decode cX8_greyest 26 = .ok (.ifCond .eq 7, 3) := by decide +kernel
theorem dX8_greyest_29 : decode cX8_greyest 29 = .ok (.iconst 1, 1) := by decide +kernel
theorem dX8_greyest_30 : decode cX8_greyest 30 = .ok (.goto 4, 3) := by decide +kernel
theorem dX8_greyest_33 : decode cX8_greyest 33 = .ok (.iconst 0, 1) := by decide +kernel
theorem dX8_greyest_34 : decode cX8_greyest 34 = .ok (.iadd, 1) := by decide +kernel
theorem dX8_greyest_35 : decode cX8_greyest 35 = .ok (.istore_n 3, 1) := by decide +kernel
theorem dX8_greyest_36 : decode cX8_greyest 36 = .ok (.iinc 4 1, 3) := by decide +kernel
theorem dX8_greyest_39 : decode cX8_greyest 39 = .ok (.goto (-27), 3) := by decide +kernel
theorem dX8_greyest_42 : decode cX8_greyest 42 = .ok (.iload_n 3, 1) := by decide +kernel
theorem dX8_greyest_43 : decode cX8_greyest 43 = .ok (.iload_n 1, 1) := by decide +kernel
theorem dX8_greyest_44 : decode cX8_greyest 44 = .ok (.if_icmp .eq 6, 3) := by decide +kernel
theorem dX8_greyest_47 : decode cX8_greyest 47 = .ok (.goto 10, 3) := by decide +kernel
theorem dX8_greyest_50 : decode cX8_greyest 50 = .ok (.aload_n 0, 1) := by decide +kernel
theorem dX8_greyest_51 : decode cX8_greyest 51 = .ok (.iconst 0, 1) := by decide +kernel
theorem dX8_greyest_52 : decode cX8_greyest 52 = .ok (.putfield 40, 3) := by decide +kernel
theorem dX8_greyest_55 : decode cX8_greyest 55 = .ok (.iload_n 2, 1) := by decide +kernel
theorem dX8_greyest_56 : decode cX8_greyest 56 = .ok (.ireturn, 1) := by decide +kernel
theorem dX8_greyest_57 : decode cX8_greyest 57 = .ok (.iinc 2 1, 3) := by decide +kernel
theorem dX8_greyest_60 : decode cX8_greyest 60 = .ok (.goto (-58), 3) := by decide +kernel
theorem dX8_greyest_63 : decode cX8_greyest 63 = .ok (.aload_n 0, 1) := by decide +kernel
theorem dX8_greyest_64 : decode cX8_greyest 64 = .ok (.iconst 1, 1) := by decide +kernel
theorem dX8_greyest_65 : decode cX8_greyest 65 = .ok (.putfield 40, 3) := by decide +kernel
theorem dX8_greyest_68 : decode cX8_greyest 68 = .ok (.iconst 0, 1) := by decide +kernel
theorem dX8_greyest_69 : decode cX8_greyest 69 = .ok (.ireturn, 1) := by decide +kernel
theorem dX8_writes_0 : decode cX8_writes 0 = .ok (.aload_n 0, 1) := by decide +kernel
theorem dX8_writes_1 : decode cX8_writes 1 = .ok (.getfield 29, 3) := by decide +kernel
theorem dX8_writes_4 : decode cX8_writes 4 = .ok (.aload_n 0, 1) := by decide +kernel
theorem dX8_writes_5 : decode cX8_writes 5 = .ok (.getfield 168, 3) := by decide +kernel
theorem dX8_writes_8 : decode cX8_writes 8 = .ok (.iload_n 1, 1) := by decide +kernel
theorem dX8_writes_9 : decode cX8_writes 9 = .ok (.i2c, 1) := by decide +kernel
theorem dX8_writes_10 : decode cX8_writes 10 = .ok (.castore, 1) := by decide +kernel
theorem dX8_writes_11 : decode cX8_writes 11 = .ok (.aload_n 0, 1) := by decide +kernel
theorem dX8_writes_12 : decode cX8_writes 12 = .ok (.dup, 1) := by decide +kernel
theorem dX8_writes_13 : decode cX8_writes 13 = .ok (.getfield 168, 3) := by decide +kernel
theorem dX8_writes_16 : decode cX8_writes 16 = .ok (.iconst 1, 1) := by decide +kernel
theorem dX8_writes_17 : decode cX8_writes 17 = .ok (.iadd, 1) := by decide +kernel
theorem dX8_writes_18 : decode cX8_writes 18 = .ok (.putfield 168, 3) := by decide +kernel
theorem dX8_writes_21 : decode cX8_writes 21 = .ok (.return_, 1) := by decide +kernel
set_option maxRecDepth 20000 in
theorem ggX8_writesBoth_X8_writes : GoodIn wsX8_writesBoth wsX8_writes := goodIn_ca (goodIn_r _ [5, 6, 7, 8, 9, 10, 11, 12, 13, 14, 15, 16, 17, 18, 19, 20, 21, 22, 23, 24, 25, 26] (by decide +kernel) (by decide +kernel)) (goodIn_sub (fun _ h => List.mem_cons_of_mem _ (List.mem_append_right _ h)) (by decide +kernel))
set_option maxRecDepth 20000 in
theorem gX8_writesBoth_X8_writes : GoodIn wsX8_writesBoth (wsV RX8 171 RX8 yX8_writes wsX8_writes) := goodIn_app (goodIn_of _ (by decide +kernel)) ggX8_writesBoth_X8_writes
theorem dX8_writesBoth_0 : decode cX8_writesBoth 0 = .ok (.aload_n 0, 1) := by decide +kernel
theorem dX8_writesBoth_1 : decode cX8_writesBoth 1 = .ok (.bipush 48, 2) := by decide +kernel
theorem dX8_writesBoth_3 : decode cX8_writesBoth 3 = .ok (.iload_n 1, 1) := by decide +kernel
theorem dX8_writesBoth_4 : decode cX8_writesBoth 4 = .ok (.iadd, 1) := by decide +kernel
theorem dX8_writesBoth_5 : decode cX8_writesBoth 5 = .ok (.invokevirtual 171, 3) := by decide +kernel
theorem dX8_writesBoth_8 : decode cX8_writesBoth 8 = .ok (.aload_n 0, 1) := by decide +kernel
theorem dX8_writesBoth_9 : decode cX8_writesBoth 9 = .ok (.bipush 48, 2) := by decide +kernel
theorem dX8_writesBoth_11 : decode cX8_writesBoth 11 = .ok (.iload_n 2, 1) := by decide +kernel
theorem dX8_writesBoth_12 : decode cX8_writesBoth 12 = .ok (.iadd, 1) := by decide +kernel
theorem dX8_writesBoth_13 : decode cX8_writesBoth 13 = .ok (.invokevirtual 171, 3) := by decide +kernel
theorem dX8_writesBoth_16 : decode cX8_writesBoth 16 = .ok (.return_, 1) := by decide +kernel
set_option maxRecDepth 20000 in
theorem ggX8_line_X8_isBelt : GoodIn wsX8_line wsX8_isBelt := goodIn_r _ [5, 6, 7, 4, 8] (by decide +kernel) (by decide +kernel)
set_option maxRecDepth 20000 in
theorem gX8_line_X8_isBelt : GoodIn wsX8_line (va_wsS RX8 75 yX8_isBelt wsX8_isBelt) := goodIn_app (goodIn_of _ (by decide +kernel)) ggX8_line_X8_isBelt
set_option maxRecDepth 20000 in
theorem ggX8_line_X8_fails : GoodIn wsX8_line wsX8_fails := goodIn_r _ [12, 13, 14, 37, 38, 39, 40, 41, 42, 43, 44, 45, 46, 47, 48, 49, 50, 51, 52, 53, 54, 55] (by decide +kernel) (by decide +kernel)
set_option maxRecDepth 20000 in
theorem gX8_line_X8_fails : GoodIn wsX8_line (wsV RX8 79 RX8 yX8_fails wsX8_fails) := goodIn_app (goodIn_of _ (by decide +kernel)) ggX8_line_X8_fails
set_option maxRecDepth 20000 in
theorem ggX8_line_X8_of : GoodIn wsX8_line wsX8_of := goodIn_ca (goodIn_r _ [18, 19, 37, 38, 39, 40, 41, 42, 43, 44, 45, 46, 47, 48, 49, 50, 51, 52, 53, 54, 55] (by decide +kernel) (by decide +kernel)) (goodIn_sub (fun _ h => List.mem_cons_of_mem _ (List.mem_append_right _ h)) (by decide +kernel))
set_option maxRecDepth 20000 in
theorem gX8_line_X8_of : GoodIn wsX8_line (wsV RX8 63 RX8 yX8_of wsX8_of) := goodIn_app (goodIn_of _ (by decide +kernel)) ggX8_line_X8_of
set_option maxRecDepth 20000 in
theorem ggX8_line_X8_writes : GoodIn wsX8_line wsX8_writes := goodIn_ca (goodIn_r _ [23, 24, 1, 37, 38, 39, 40, 41, 42, 43, 44, 45, 46, 47, 48, 49, 50, 51, 52, 53, 54, 55] (by decide +kernel) (by decide +kernel)) (goodIn_sub (fun _ h => List.mem_cons_of_mem _ (List.mem_append_right _ h)) (by decide +kernel))
set_option maxRecDepth 20000 in
theorem gX8_line_X8_writes : GoodIn wsX8_line (wsV RX8 171 RX8 yX8_writes wsX8_writes) := goodIn_app (goodIn_of _ (by decide +kernel)) ggX8_line_X8_writes
set_option maxRecDepth 20000 in
theorem ggX8_line_X8_isBlank : GoodIn wsX8_line wsX8_isBlank := goodIn_ca (goodIn_r _ [28, 29, 30, 31, 4, 32, 15, 16, 17, 18, 19, 37, 38, 39, 40, 41, 42, 43, 44, 45, 46, 47, 48, 49, 50, 51, 52, 53, 54, 55] (by decide +kernel) (by decide +kernel)) (goodIn_sub (fun _ h => List.mem_cons_of_mem _ (List.mem_append_right _ h)) (by decide +kernel))
set_option maxRecDepth 20000 in
theorem gX8_line_X8_isBlank : GoodIn wsX8_line (wsV RX8 93 RX8 yX8_isBlank wsX8_isBlank) := goodIn_app (goodIn_of _ (by decide +kernel)) ggX8_line_X8_isBlank
set_option maxRecDepth 20000 in
theorem ggX8_line_X8_on : GoodIn wsX8_line wsX8_on := goodIn_ca (goodIn_r _ [32, 15, 16, 17, 4, 18, 19, 37, 38, 39, 40, 41, 42, 43, 44, 45, 46, 47, 48, 49, 50, 51, 52, 53, 54, 55] (by decide +kernel) (by decide +kernel)) (goodIn_sub (fun _ h => List.mem_cons_of_mem _ (List.mem_append_right _ h)) (by decide +kernel))
set_option maxRecDepth 20000 in
theorem gX8_line_X8_on : GoodIn wsX8_line (wsV RX8 67 RX8 yX8_on wsX8_on) := goodIn_app (goodIn_of _ (by decide +kernel)) ggX8_line_X8_on
set_option maxRecDepth 20000 in
theorem ggX8_line_X8_writesBoth : GoodIn wsX8_line wsX8_writesBoth := goodIn_ca (goodIn_r _ [36, 20, 21, 22, 4, 23, 24, 1, 37, 38, 39, 40, 41, 42, 43, 44, 45, 46, 47, 48, 49, 50, 51, 52, 53, 54, 55] (by decide +kernel) (by decide +kernel)) (goodIn_sub (fun _ h => List.mem_cons_of_mem _ (List.mem_append_right _ h)) (by decide +kernel))
set_option maxRecDepth 20000 in
theorem gX8_line_X8_writesBoth : GoodIn wsX8_line (wsV RX8 174 RX8 yX8_writesBoth wsX8_writesBoth) := goodIn_app (goodIn_of _ (by decide +kernel)) ggX8_line_X8_writesBoth
theorem dX8_line_0 : decode cX8_line 0 = .ok (.aload_n 0, 1) := by decide +kernel
theorem dX8_line_1 : decode cX8_line 1 = .ok (.iload_n 1, 1) := by decide +kernel
theorem dX8_line_2 : decode cX8_line 2 = .ok (.invokestatic 75, 3) := by decide +kernel
theorem dX8_line_5 : decode cX8_line 5 = .ok (.ifCond .eq 7, 3) := by decide +kernel
theorem dX8_line_8 : decode cX8_line 8 = .ok (.iconst 0, 1) := by decide +kernel
theorem dX8_line_9 : decode cX8_line 9 = .ok (.goto 4, 3) := by decide +kernel
theorem dX8_line_12 : decode cX8_line 12 = .ok (.iconst 1, 1) := by decide +kernel
theorem dX8_line_13 : decode cX8_line 13 = .ok (.invokevirtual 79, 3) := by decide +kernel
theorem dX8_line_16 : decode cX8_line 16 = .ok (.ifCond .eq 5, 3) := by decide +kernel
theorem dX8_line_19 : decode cX8_line 19 = .ok (.iconst 0, 1) := by decide +kernel
theorem dX8_line_20 : decode cX8_line 20 = .ok (.ireturn, 1) := by decide +kernel
theorem dX8_line_21 : decode cX8_line 21 = .ok (.aload_n 0, 1) := by decide +kernel
theorem dX8_line_22 : decode cX8_line 22 = .ok (.iconst 0, 1) := by decide +kernel
theorem dX8_line_23 : decode cX8_line 23 = .ok (.putfield 168, 3) := by decide +kernel
theorem dX8_line_26 : decode cX8_line 26 = .ok (.aload_n 0, 1) := by decide +kernel
theorem dX8_line_27 : decode cX8_line 27 = .ok (.bipush 48, 2) := by decide +kernel
theorem dX8_line_29 : decode cX8_line 29 = .ok (.aload_n 0, 1) := by decide +kernel
theorem dX8_line_30 : decode cX8_line 30 = .ok (.iload_n 1, 1) := by decide +kernel
theorem dX8_line_31 : decode cX8_line 31 = .ok (.iconst 1, 1) := by decide +kernel
theorem dX8_line_32 : decode cX8_line 32 = .ok (.invokevirtual 63, 3) := by decide +kernel
theorem dX8_line_35 : decode cX8_line 35 = .ok (.iadd, 1) := by decide +kernel
theorem dX8_line_36 : decode cX8_line 36 = .ok (.invokevirtual 171, 3) := by decide +kernel
theorem dX8_line_39 : decode cX8_line 39 = .ok (.aload_n 0, 1) := by decide +kernel
theorem dX8_line_40 : decode cX8_line 40 = .ok (.bipush 47, 2) := by decide +kernel
theorem dX8_line_42 : decode cX8_line 42 = .ok (.invokevirtual 171, 3) := by decide +kernel
theorem dX8_line_45 : decode cX8_line 45 = .ok (.aload_n 0, 1) := by decide +kernel
theorem dX8_line_46 : decode cX8_line 46 = .ok (.bipush 48, 2) := by decide +kernel
theorem dX8_line_48 : decode cX8_line 48 = .ok (.aload_n 0, 1) := by decide +kernel
theorem dX8_line_49 : decode cX8_line 49 = .ok (.iload_n 1, 1) := by decide +kernel
theorem dX8_line_50 : decode cX8_line 50 = .ok (.iconst 2, 1) := by decide +kernel
theorem dX8_line_51 : decode cX8_line 51 = .ok (.invokevirtual 63, 3) := by decide +kernel
theorem dX8_line_54 : decode cX8_line 54 = .ok (.iadd, 1) := by decide +kernel
theorem dX8_line_55 : decode cX8_line 55 = .ok (.invokevirtual 171, 3) := by decide +kernel
theorem dX8_line_58 : decode cX8_line 58 = .ok (.aload_n 0, 1) := by decide +kernel
theorem dX8_line_59 : decode cX8_line 59 = .ok (.bipush 58, 2) := by decide +kernel
theorem dX8_line_61 : decode cX8_line 61 = .ok (.invokevirtual 171, 3) := by decide +kernel
theorem dX8_line_64 : decode cX8_line 64 = .ok (.iconst 0, 1) := by decide +kernel
theorem dX8_line_65 : decode cX8_line 65 = .ok (.istore_n 2, 1) := by decide +kernel
theorem dX8_line_66 : decode cX8_line 66 = .ok (.iload_n 2, 1) := by decide +kernel
theorem dX8_line_67 : decode cX8_line 67 = .ok (.aload_n 0, 1) := by decide +kernel
theorem dX8_line_68 : decode cX8_line 68 = .ok (.iload_n 1, 1) := by decide +kernel
theorem dX8_line_69 : decode cX8_line 69 = .ok (.iconst 0, 1) := by decide +kernel
theorem dX8_line_70 : decode cX8_line 70 = .ok (.invokevirtual 63, 3) := by decide +kernel
theorem dX8_line_73 : decode cX8_line 73 = .ok (.if_icmp .ge 61, 3) := by decide +kernel
theorem dX8_line_76 : decode cX8_line 76 = .ok (.iload_n 2, 1) := by decide +kernel
theorem dX8_line_77 : decode cX8_line 77 = .ok (.ifCond .le 9, 3) := by decide +kernel
theorem dX8_line_80 : decode cX8_line 80 = .ok (.aload_n 0, 1) := by decide +kernel
theorem dX8_line_81 : decode cX8_line 81 = .ok (.bipush 32, 2) := by decide +kernel
theorem dX8_line_83 : decode cX8_line 83 = .ok (.invokevirtual 171, 3) := by decide +kernel
theorem dX8_line_86 : decode cX8_line 86 = .ok (.aload_n 0, 1) := by decide +kernel
theorem dX8_line_87 : decode cX8_line 87 = .ok (.iload_n 1, 1) := by decide +kernel
theorem dX8_line_88 : decode cX8_line 88 = .ok (.iload_n 2, 1) := by decide +kernel
theorem dX8_line_89 : decode cX8_line 89 = .ok (.invokevirtual 93, 3) := by decide +kernel
theorem dX8_line_92 : decode cX8_line 92 = .ok (.ifCond .eq 18, 3) := by decide +kernel
theorem dX8_line_95 : decode cX8_line 95 = .ok (.aload_n 0, 1) := by decide +kernel
theorem dX8_line_96 : decode cX8_line 96 = .ok (.bipush 45, 2) := by decide +kernel
theorem dX8_line_98 : decode cX8_line 98 = .ok (.invokevirtual 171, 3) := by decide +kernel
theorem dX8_line_101 : decode cX8_line 101 = .ok (.aload_n 0, 1) := by decide +kernel
theorem dX8_line_102 : decode cX8_line 102 = .ok (.bipush 45, 2) := by decide +kernel
theorem dX8_line_104 : decode cX8_line 104 = .ok (.invokevirtual 171, 3) := by decide +kernel
theorem dX8_line_107 : decode cX8_line 107 = .ok (.goto 21, 3) := by decide +kernel
theorem dX8_line_110 : decode cX8_line 110 = .ok (.aload_n 0, 1) := by decide +kernel
theorem dX8_line_111 : decode cX8_line 111 = .ok (.aload_n 0, 1) := by decide +kernel
theorem dX8_line_112 : decode cX8_line 112 = .ok (.iload_n 1, 1) := by decide +kernel
theorem dX8_line_113 : decode cX8_line 113 = .ok (.iload_n 2, 1) := by decide +kernel
theorem dX8_line_114 : decode cX8_line 114 = .ok (.iconst 1, 1) := by decide +kernel
theorem dX8_line_115 : decode cX8_line 115 = .ok (.invokevirtual 67, 3) := by decide +kernel
theorem dX8_line_118 : decode cX8_line 118 = .ok (.aload_n 0, 1) := by decide +kernel
theorem dX8_line_119 : decode cX8_line 119 = .ok (.iload_n 1, 1) := by decide +kernel
theorem dX8_line_120 : decode cX8_line 120 = .ok (.iload_n 2, 1) := by decide +kernel
theorem dX8_line_121 : decode cX8_line 121 = .ok (.iconst 2, 1) := by decide +kernel
theorem dX8_line_122 : decode cX8_line 122 = .ok (.invokevirtual 67, 3) := by decide +kernel
theorem dX8_line_125 : decode cX8_line 125 = .ok (.invokevirtual 174, 3) := by decide +kernel
theorem dX8_line_128 : decode cX8_line 128 = .ok (.iinc 2 1, 3) := by decide +kernel
theorem dX8_line_131 : decode cX8_line 131 = .ok (.goto (-65), 3) := by decide +kernel
theorem dX8_line_134 : decode cX8_line 134 = .ok (.aload_n 0, 1) := by decide +kernel
theorem dX8_line_135 : decode cX8_line 135 = .ok (.getfield 168, 3) := by decide +kernel
theorem dX8_line_138 : decode cX8_line 138 = .ok (.ireturn, 1) := by decide +kernel
set_option maxRecDepth 20000 in
theorem ggX8_shelfLine_X8_writes : GoodIn wsX8_shelfLine wsX8_writes := goodIn_ca (goodIn_r _ [8, 9, 2, 18, 19, 20, 21, 22, 23, 24, 25, 26, 27, 28, 29, 30, 31, 32, 33, 34, 35, 36] (by decide +kernel) (by decide +kernel)) (goodIn_sub (fun _ h => List.mem_cons_of_mem _ (List.mem_append_right _ h)) (by decide +kernel))
set_option maxRecDepth 20000 in
theorem gX8_shelfLine_X8_writes : GoodIn wsX8_shelfLine (wsV RX8 171 RX8 yX8_writes wsX8_writes) := goodIn_app (goodIn_of _ (by decide +kernel)) ggX8_shelfLine_X8_writes
set_option maxRecDepth 20000 in
theorem ggX8_shelfLine_X8_its : GoodIn wsX8_shelfLine wsX8_its := goodIn_ca (goodIn_r _ [13, 3, 18, 19, 20, 21, 22, 23, 24, 25, 26, 27, 28, 29, 30, 31, 32, 33, 34, 35, 36] (by decide +kernel) (by decide +kernel)) (goodIn_sub (fun _ h => List.mem_cons_of_mem _ (List.mem_append_right _ h)) (by decide +kernel))
set_option maxRecDepth 20000 in
theorem gX8_shelfLine_X8_its : GoodIn wsX8_shelfLine (wsV RX8 132 RX8 yX8_its wsX8_its) := goodIn_app (goodIn_of _ (by decide +kernel)) ggX8_shelfLine_X8_its
set_option maxRecDepth 20000 in
theorem ggX8_shelfLine_X8_writesBoth : GoodIn wsX8_shelfLine wsX8_writesBoth := goodIn_ca (goodIn_r _ [17, 4, 5, 6, 7, 8, 9, 2, 18, 19, 20, 21, 22, 23, 24, 25, 26, 27, 28, 29, 30, 31, 32, 33, 34, 35, 36] (by decide +kernel) (by decide +kernel)) (goodIn_sub (fun _ h => List.mem_cons_of_mem _ (List.mem_append_right _ h)) (by decide +kernel))
set_option maxRecDepth 20000 in
theorem gX8_shelfLine_X8_writesBoth : GoodIn wsX8_shelfLine (wsV RX8 174 RX8 yX8_writesBoth wsX8_writesBoth) := goodIn_app (goodIn_of _ (by decide +kernel)) ggX8_shelfLine_X8_writesBoth
theorem dX8_shelfLine_0 : decode cX8_shelfLine 0 = .ok (.aload_n 0, 1) := by decide +kernel
theorem dX8_shelfLine_1 : decode cX8_shelfLine 1 = .ok (.iconst 0, 1) := by decide +kernel
theorem dX8_shelfLine_2 : decode cX8_shelfLine 2 = .ok (.putfield 40, 3) := by decide +kernel
theorem dX8_shelfLine_5 : decode cX8_shelfLine 5 = .ok (.aload_n 0, 1) := by decide +kernel
theorem dX8_shelfLine_6 : decode cX8_shelfLine 6 = .ok (.iconst 0, 1) := by decide +kernel
theorem dX8_shelfLine_7 : decode cX8_shelfLine 7 = .ok (.putfield 168, 3) := by decide +kernel
theorem dX8_shelfLine_10 : decode cX8_shelfLine 10 = .ok (.iconst 0, 1) := by decide +kernel
theorem dX8_shelfLine_11 : decode cX8_shelfLine 11 = .ok (.istore_n 1, 1) := by decide +kernel
theorem dX8_shelfLine_12 : decode cX8_shelfLine 12 = .ok (.iload_n 1, 1) := by decide +kernel
theorem dX8_shelfLine_13 : decode cX8_shelfLine 13 = .ok (.aload_n 0, 1) := by decide +kernel
theorem dX8_shelfLine_14 : decode cX8_shelfLine 14 = .ok (.getfield 7, 3) := by decide +kernel
theorem dX8_shelfLine_17 : decode cX8_shelfLine 17 = .ok (.bipush 10, 2) := by decide +kernel
theorem dX8_shelfLine_19 : decode cX8_shelfLine 19 = .ok (.iaload, 1) := by decide +kernel
theorem dX8_shelfLine_20 : decode cX8_shelfLine 20 = .ok (.if_icmp .ge 54, 3) := by decide +kernel
theorem dX8_shelfLine_23 : decode cX8_shelfLine 23 = .ok (.iload_n 1, 1) := by decide +kernel
theorem dX8_shelfLine_24 : decode cX8_shelfLine 24 = .ok (.ifCond .le 9, 3) := by decide +kernel
theorem dX8_shelfLine_27 : decode cX8_shelfLine 27 = .ok (.aload_n 0, 1) := by decide +kernel
theorem dX8_shelfLine_28 : decode cX8_shelfLine 28 = .ok (.bipush 32, 2) := by decide +kernel
theorem dX8_shelfLine_30 : decode cX8_shelfLine 30 = .ok (.invokevirtual 171, 3) := by decide +kernel
theorem dX8_shelfLine_33 : decode cX8_shelfLine 33 = .ok (.aload_n 0, 1) := by decide +kernel
theorem dX8_shelfLine_34 : decode cX8_shelfLine 34 = .ok (.aload_n 0, 1) := by decide +kernel
theorem dX8_shelfLine_35 : decode cX8_shelfLine 35 = .ok (.iload_n 1, 1) := by decide +kernel
theorem dX8_shelfLine_36 : decode cX8_shelfLine 36 = .ok (.iconst 0, 1) := by decide +kernel
theorem dX8_shelfLine_37 : decode cX8_shelfLine 37 = .ok (.invokevirtual 132, 3) := by decide +kernel
theorem dX8_shelfLine_40 : decode cX8_shelfLine 40 = .ok (.aload_n 0, 1) := by decide +kernel
theorem dX8_shelfLine_41 : decode cX8_shelfLine 41 = .ok (.iload_n 1, 1) := by decide +kernel
theorem dX8_shelfLine_42 : decode cX8_shelfLine 42 = .ok (.iconst 1, 1) := by decide +kernel
theorem dX8_shelfLine_43 : decode cX8_shelfLine 43 = .ok (.invokevirtual 132, 3) := by decide +kernel
theorem dX8_shelfLine_46 : decode cX8_shelfLine 46 = .ok (.invokevirtual 174, 3) := by decide +kernel
theorem dX8_shelfLine_49 : decode cX8_shelfLine 49 = .ok (.aload_n 0, 1) := by decide +kernel
theorem dX8_shelfLine_50 : decode cX8_shelfLine 50 = .ok (.bipush 33, 2) := by decide +kernel
theorem dX8_shelfLine_52 : decode cX8_shelfLine 52 = .ok (.invokevirtual 171, 3) := by decide +kernel
theorem dX8_shelfLine_55 : decode cX8_shelfLine 55 = .ok (.aload_n 0, 1) := by decide +kernel
theorem dX8_shelfLine_56 : decode cX8_shelfLine 56 = .ok (.bipush 48, 2) := by decide +kernel
theorem dX8_shelfLine_58 : decode cX8_shelfLine 58 = .ok (.aload_n 0, 1) := by decide +kernel
theorem dX8_shelfLine_59 : decode cX8_shelfLine 59 = .ok (.iload_n 1, 1) := by decide +kernel
theorem dX8_shelfLine_60 : decode cX8_shelfLine 60 = .ok (.iconst 3, 1) := by decide +kernel
theorem dX8_shelfLine_61 : decode cX8_shelfLine 61 = .ok (.invokevirtual 132, 3) := by decide +kernel
theorem dX8_shelfLine_64 : decode cX8_shelfLine 64 = .ok (.iadd, 1) := by decide +kernel
theorem dX8_shelfLine_65 : decode cX8_shelfLine 65 = .ok (.invokevirtual 171, 3) := by decide +kernel
theorem dX8_shelfLine_68 : decode cX8_shelfLine 68 = .ok (.iinc 1 1, 3) := by decide +kernel
theorem dX8_shelfLine_71 : decode cX8_shelfLine 71 = .ok (.goto (-59), 3) := by decide +kernel
theorem dX8_shelfLine_74 : decode cX8_shelfLine 74 = .ok (.aload_n 0, 1) := by decide +kernel
theorem dX8_shelfLine_75 : decode cX8_shelfLine 75 = .ok (.getfield 168, 3) := by decide +kernel
theorem dX8_shelfLine_78 : decode cX8_shelfLine 78 = .ok (.ireturn, 1) := by decide +kernel
set_option maxRecDepth 20000 in
theorem ggX8_character_X8_in : GoodIn wsX8_character wsX8_in := goodIn_r _ [6] (by decide +kernel) (by decide +kernel)
set_option maxRecDepth 20000 in
theorem gX8_character_X8_in : GoodIn wsX8_character (va_wsS RX8 71 yX8_in wsX8_in) := goodIn_app (goodIn_of _ (by decide +kernel)) ggX8_character_X8_in
set_option maxRecDepth 20000 in
theorem ggX8_character_X8_fails : GoodIn wsX8_character wsX8_fails := goodIn_r _ [10, 11, 12, 13, 14, 15, 16, 17, 18, 19, 20, 21, 22, 23, 24, 25, 26, 27, 28, 29, 30, 31] (by decide +kernel) (by decide +kernel)
set_option maxRecDepth 20000 in
theorem gX8_character_X8_fails : GoodIn wsX8_character (wsV RX8 79 RX8 yX8_fails wsX8_fails) := goodIn_app (goodIn_of _ (by decide +kernel)) ggX8_character_X8_fails
theorem dX8_character_0 : decode cX8_character 0 = .ok (.aload_n 0, 1) := by decide +kernel
theorem dX8_character_1 : decode cX8_character 1 = .ok (.iload_n 1, 1) := by decide +kernel
theorem dX8_character_2 : decode cX8_character 2 = .ok (.iconst 0, 1) := by decide +kernel
theorem dX8_character_3 : decode cX8_character 3 = .ok (.aload_n 0, 1) := by decide +kernel
theorem dX8_character_4 : decode cX8_character 4 = .ok (.getfield 168, 3) := by decide +kernel
theorem dX8_character_7 : decode cX8_character 7 = .ok (.iconst 1, 1) := by decide +kernel
theorem dX8_character_8 : decode cX8_character 8 = .ok (.isub, 1) := by decide +kernel
theorem dX8_character_9 : decode cX8_character 9 = .ok (.invokestatic 71, 3) := by decide +kernel
theorem dX8_character_12 : decode cX8_character 12 = .ok (.ifCond .eq 7, 3) := by decide +kernel
theorem dX8_character_15 : decode cX8_character 15 = .ok (.iconst 0, 1) := by decide +kernel
theorem dX8_character_16 : decode cX8_character 16 = .ok (.goto 4, 3) := by decide +kernel
theorem dX8_character_19 : decode cX8_character 19 = .ok (.iconst 1, 1) := by decide +kernel
theorem dX8_character_20 : decode cX8_character 20 = .ok (.invokevirtual 79, 3) := by decide +kernel
theorem dX8_character_23 : decode cX8_character 23 = .ok (.ifCond .eq 8, 3) := by decide +kernel
theorem dX8_character_26 : decode cX8_character 26 = .ok (.bipush 32, 2) := by decide +kernel
theorem dX8_character_28 : decode cX8_character 28 = .ok (.goto 9, 3) := by decide +kernel
theorem dX8_character_31 : decode cX8_character 31 = .ok (.aload_n 0, 1) := by decide +kernel
theorem dX8_character_32 : decode cX8_character 32 = .ok (.getfield 29, 3) := by decide +kernel
theorem dX8_character_35 : decode cX8_character 35 = .ok (.iload_n 1, 1) := by decide +kernel
theorem dX8_character_36 : decode cX8_character 36 = .ok (.caload, 1) := by decide +kernel
theorem dX8_character_37 : decode cX8_character 37 = .ok (.ireturn, 1) := by decide +kernel
set_option maxRecDepth 20000 in
theorem ggX8_append_X8_fails : GoodIn wsX8_append wsX8_fails := goodIn_r _ [7, 8, 9, 10, 11, 12, 13, 14, 15, 16, 17, 18, 19, 20, 21, 22, 23, 24, 25, 26, 27, 28] (by decide +kernel) (by decide +kernel)
set_option maxRecDepth 20000 in
theorem gX8_append_X8_fails : GoodIn wsX8_append (wsV RX8 79 RX8 yX8_fails wsX8_fails) := goodIn_app (goodIn_of _ (by decide +kernel)) ggX8_append_X8_fails
theorem dX8_append_0 : decode cX8_append 0 = .ok (.aload_n 0, 1) := by decide +kernel
theorem dX8_append_1 : decode cX8_append 1 = .ok (.aload_n 0, 1) := by decide +kernel
theorem dX8_append_2 : decode cX8_append 2 = .ok (.getfield 177, 3) := by decide +kernel
theorem dX8_append_5 : decode cX8_append 5 = .ok (.bipush 60, 2) := by decide +kernel
theorem dX8_append_7 : decode cX8_append 7 = .ok (.if_icmp .ne 7, 3) := by decide +kernel
theorem dX8_append_10 : decode cX8_append 10 = .ok (.iconst 1, 1) := by decide +kernel
theorem dX8_append_11 : decode cX8_append 11 = .ok (.goto 4, 3) := by decide +kernel
theorem dX8_append_14 : decode cX8_append 14 = .ok (.iconst 0, 1) := by decide +kernel
theorem dX8_append_15 : decode cX8_append 15 = .ok (.invokevirtual 79, 3) := by decide +kernel
theorem dX8_append_18 : decode cX8_append 18 = .ok (.ifCond .eq 5, 3) := by decide +kernel
theorem dX8_append_21 : decode cX8_append 21 = .ok (.iconst 0, 1) := by decide +kernel
theorem dX8_append_22 : decode cX8_append 22 = .ok (.ireturn, 1) := by decide +kernel
theorem dX8_append_23 : decode cX8_append 23 = .ok (.aload_n 0, 1) := by decide +kernel
theorem dX8_append_24 : decode cX8_append 24 = .ok (.getfield 22, 3) := by decide +kernel
theorem dX8_append_27 : decode cX8_append 27 = .ok (.aload_n 0, 1) := by decide +kernel
theorem dX8_append_28 : decode cX8_append 28 = .ok (.getfield 177, 3) := by decide +kernel
theorem dX8_append_31 : decode cX8_append 31 = .ok (.iload_n 1, 1) := by decide +kernel
theorem dX8_append_32 : decode cX8_append 32 = .ok (.iastore, 1) := by decide +kernel
theorem dX8_append_33 : decode cX8_append 33 = .ok (.aload_n 0, 1) := by decide +kernel
theorem dX8_append_34 : decode cX8_append 34 = .ok (.dup, 1) := by decide +kernel
theorem dX8_append_35 : decode cX8_append 35 = .ok (.getfield 177, 3) := by decide +kernel
theorem dX8_append_38 : decode cX8_append 38 = .ok (.iconst 1, 1) := by decide +kernel
theorem dX8_append_39 : decode cX8_append 39 = .ok (.iadd, 1) := by decide +kernel
theorem dX8_append_40 : decode cX8_append 40 = .ok (.putfield 177, 3) := by decide +kernel
theorem dX8_append_43 : decode cX8_append 43 = .ok (.aload_n 0, 1) := by decide +kernel
theorem dX8_append_44 : decode cX8_append 44 = .ok (.getfield 177, 3) := by decide +kernel
theorem dX8_append_47 : decode cX8_append 47 = .ok (.ireturn, 1) := by decide +kernel
theorem dX8_here_0 : decode cX8_here 0 = .ok (.aload_n 0, 1) := by decide +kernel
theorem dX8_here_1 : decode cX8_here 1 = .ok (.getfield 180, 3) := by decide +kernel
theorem dX8_here_4 : decode cX8_here 4 = .ok (.aload_n 0, 1) := by decide +kernel
theorem dX8_here_5 : decode cX8_here 5 = .ok (.getfield 177, 3) := by decide +kernel
theorem dX8_here_8 : decode cX8_here 8 = .ok (.if_icmp .ge 15, 3) := by decide +kernel
theorem dX8_here_11 : decode cX8_here 11 = .ok (.aload_n 0, 1) := by decide +kernel
theorem dX8_here_12 : decode cX8_here 12 = .ok (.getfield 22, 3) := by decide +kernel
theorem dX8_here_15 : decode cX8_here 15 = .ok (.aload_n 0, 1) := by decide +kernel
theorem dX8_here_16 : decode cX8_here 16 = .ok (.getfield 180, 3) := by decide +kernel
theorem dX8_here_19 : decode cX8_here 19 = .ok (.iaload, 1) := by decide +kernel
theorem dX8_here_20 : decode cX8_here 20 = .ok (.goto 4, 3) := by decide +kernel
theorem dX8_here_23 : decode cX8_here 23 = .ok (.iconst (-1), 1) := by decide +kernel
theorem dX8_here_24 : decode cX8_here 24 = .ok (.ireturn, 1) := by decide +kernel
set_option maxRecDepth 20000 in
theorem ggX8_skips_X8_here : GoodIn wsX8_skips wsX8_here := goodIn_ca (goodIn_r _ [6, 1, 7, 8, 9, 10, 11, 12, 13, 14, 15, 16, 17, 18, 19, 20, 21, 22, 23, 24, 25, 26, 27] (by decide +kernel) (by decide +kernel)) (goodIn_sub (fun _ h => List.mem_cons_of_mem _ (List.mem_append_right _ h)) (by decide +kernel))
set_option maxRecDepth 20000 in
theorem gX8_skips_X8_here : GoodIn wsX8_skips (wsV RX8 183 RX8 yX8_here wsX8_here) := goodIn_app (goodIn_of _ (by decide +kernel)) ggX8_skips_X8_here
theorem dX8_skips_0 : decode cX8_skips 0 = .ok (.aload_n 0, 1) := by decide +kernel
theorem dX8_skips_1 : decode cX8_skips 1 = .ok (.invokevirtual 183, 3) := by decide +kernel
theorem dX8_skips_4 : decode cX8_skips 4 = .ok (.iload_n 1, 1) := by decide +kernel
theorem dX8_skips_5 : decode cX8_skips 5 = .ok (.if_icmp .eq 5, 3) := by decide +kernel
theorem dX8_skips_8 : decode cX8_skips 8 = .ok (.iconst 0, 1) := by decide +kernel
theorem dX8_skips_9 : decode cX8_skips 9 = .ok (.ireturn, 1) := by decide +kernel
theorem dX8_skips_10 : decode cX8_skips 10 = .ok (.aload_n 0, 1) := by decide +kernel
theorem dX8_skips_11 : decode cX8_skips 11 = .ok (.dup, 1) := by decide +kernel
theorem dX8_skips_12 : decode cX8_skips 12 = .ok (.getfield 180, 3) := by decide +kernel
theorem dX8_skips_15 : decode cX8_skips 15 = .ok (.iconst 1, 1) := by decide +kernel
theorem dX8_skips_16 : decode cX8_skips 16 = .ok (.iadd, 1) := by decide +kernel
theorem dX8_skips_17 : decode cX8_skips 17 = .ok (.putfield 180, 3) := by decide +kernel
theorem dX8_skips_20 : decode cX8_skips 20 = .ok (.iconst 1, 1) := by decide +kernel
theorem dX8_skips_21 : decode cX8_skips 21 = .ok (.ireturn, 1) := by decide +kernel
set_option maxRecDepth 20000 in
theorem ggX8_figures_X8_here : GoodIn wsX8_figures wsX8_here := goodIn_ca (goodIn_r _ [7, 2, 8, 9, 13, 14, 15, 16, 17, 18, 19, 20, 21, 22, 23, 24, 25, 26, 27, 28, 29, 30, 31] (by decide +kernel) (by decide +kernel)) (goodIn_sub (fun _ h => List.mem_cons_of_mem _ (List.mem_append_right _ h)) (by decide +kernel))
set_option maxRecDepth 20000 in
theorem gX8_figures_X8_here : GoodIn wsX8_figures (wsV RX8 183 RX8 yX8_here wsX8_here) := goodIn_app (goodIn_of _ (by decide +kernel)) ggX8_figures_X8_here
set_option maxRecDepth 20000 in
theorem ggX8_figures_X8_in : GoodIn wsX8_figures wsX8_in := goodIn_r _ [12] (by decide +kernel) (by decide +kernel)
set_option maxRecDepth 20000 in
theorem gX8_figures_X8_in : GoodIn wsX8_figures (va_wsS RX8 71 yX8_in wsX8_in) := goodIn_app (goodIn_of _ (by decide +kernel)) ggX8_figures_X8_in
theorem dX8_figures_0 : decode cX8_figures 0 = .ok (.iconst 0, 1) := by decide +kernel
theorem dX8_figures_1 : decode cX8_figures 1 = .ok (.istore_n 3, 1) := by decide +kernel
theorem dX8_figures_2 : decode cX8_figures 2 = .ok (.iload_n 3, 1) := by decide +kernel
theorem dX8_figures_3 : decode cX8_figures 3 = .ok (.iload_n 2, 1) := by decide +kernel
theorem dX8_figures_4 : decode cX8_figures 4 = .ok (.if_icmp .ge 50, 3) := by decide +kernel
theorem dX8_figures_7 : decode cX8_figures 7 = .ok (.aload_n 0, 1) := by decide +kernel
theorem dX8_figures_8 : decode cX8_figures 8 = .ok (.invokevirtual 183, 3) := by decide +kernel
theorem dX8_figures_11 : decode cX8_figures 11 = .ok (.bipush 48, 2) := by decide +kernel
theorem dX8_figures_13 : decode cX8_figures 13 = .ok (.bipush 57, 2) := by decide +kernel
theorem dX8_figures_15 : decode cX8_figures 15 = .ok (.invokestatic 71, 3) := by decide +kernel
theorem dX8_figures_18 : decode cX8_figures 18 = .ok (.ifCond .ne 5, 3) := by decide +kernel
theorem dX8_figures_21 : decode cX8_figures 21 = .ok (.iconst 0, 1) := by decide +kernel
theorem dX8_figures_22 : decode cX8_figures 22 = .ok (.ireturn, 1) := by decide +kernel
theorem dX8_figures_23 : decode cX8_figures 23 = .ok (.aload_n 0, 1) := by decide +kernel
theorem dX8_figures_24 : decode cX8_figures 24 = .ok (.getfield 33, 3) := by decide +kernel
theorem dX8_figures_27 : decode cX8_figures 27 = .ok (.iload_n 1, 1) := by decide +kernel
theorem dX8_figures_28 : decode cX8_figures 28 = .ok (.iload_n 3, 1) := by decide +kernel
theorem dX8_figures_29 : decode cX8_figures 29 = .ok (.iadd, 1) := by decide +kernel
theorem dX8_figures_30 : decode cX8_figures 30 = .ok (.aload_n 0, 1) := by decide +kernel
theorem dX8_figures_31 : decode cX8_figures 31 = .ok (.invokevirtual 183, 3) := by decide +kernel
theorem dX8_figures_34 : decode cX8_figures 34 = .ok (.bipush 48, 2) := by decide +kernel
theorem dX8_figures_36 : decode cX8_figures 36 = .ok (.isub, 1) := by decide +kernel
theorem dX8_figures_37 : decode cX8_figures 37 = .ok (.iastore, 1) := by decide +kernel
theorem dX8_figures_38 : decode cX8_figures 38 = .ok (.aload_n 0, 1) := by decide +kernel
theorem dX8_figures_39 : decode cX8_figures 39 = .ok (.dup, 1) := by decide +kernel
theorem dX8_figures_40 : decode cX8_figures 40 = .ok (.getfield 180, 3) := by decide +kernel
theorem dX8_figures_43 : decode cX8_figures 43 = .ok (.iconst 1, 1) := by decide +kernel
theorem dX8_figures_44 : decode cX8_figures 44 = .ok (.iadd, 1) := by decide +kernel
theorem dX8_figures_45 : decode cX8_figures 45 = .ok (.putfield 180, 3) := by decide +kernel
theorem dX8_figures_48 : decode cX8_figures 48 = .ok (.iinc 3 1, 3) := by decide +kernel
theorem dX8_figures_51 : decode cX8_figures 51 = .ok (.goto (-49), 3) := by decide +kernel
theorem dX8_figures_54 : decode cX8_figures 54 = .ok (.iconst 1, 1) := by decide +kernel
theorem dX8_figures_55 : decode cX8_figures 55 = .ok (.ireturn, 1) := by decide +kernel
set_option maxRecDepth 20000 in
theorem ggX8_orderHere_X8_here : GoodIn wsX8_orderHere wsX8_here := goodIn_ca (goodIn_r _ [7, 8, 9, 10, 22, 23, 24, 25, 26, 27, 28, 29, 30, 31, 32, 33, 34, 35, 36, 37, 38, 39, 40] (by decide +kernel) (by decide +kernel)) (goodIn_sub (fun _ h => List.mem_cons_of_mem _ (List.mem_append_right _ h)) (by decide +kernel))
set_option maxRecDepth 20000 in
theorem gX8_orderHere_X8_here : GoodIn wsX8_orderHere (wsV RX8 183 RX8 yX8_here wsX8_here) := goodIn_app (goodIn_of _ (by decide +kernel)) ggX8_orderHere_X8_here
set_option maxRecDepth 20000 in
theorem ggX8_orderHere_X8_skips : GoodIn wsX8_orderHere wsX8_skips := goodIn_ca (goodIn_r _ [14, 8, 3, 4, 5, 6, 7, 9, 10, 22, 23, 24, 25, 26, 27, 28, 29, 30, 31, 32, 33, 34, 35, 36, 37, 38, 39, 40] (by decide +kernel) (by decide +kernel)) (goodIn_sub (fun _ h => List.mem_cons_of_mem _ (List.mem_append_right _ h)) (by decide +kernel))
set_option maxRecDepth 20000 in
theorem gX8_orderHere_X8_skips : GoodIn wsX8_orderHere (wsV RX8 189 RX8 yX8_skips wsX8_skips) := goodIn_app (goodIn_of _ (by decide +kernel)) ggX8_orderHere_X8_skips
set_option maxRecDepth 20000 in
theorem ggX8_orderHere_X8_figures : GoodIn wsX8_orderHere wsX8_figures := goodIn_ca (goodIn_r _ [18, 2, 8, 3, 4, 5, 6, 7, 9, 10, 19, 20, 21, 22, 23, 24, 25, 26, 27, 28, 29, 30, 31, 32, 33, 34, 35, 36, 37, 38, 39, 40] (by decide +kernel) (by decide +kernel)) (goodIn_sub (fun _ h => List.mem_cons_of_mem _ (List.mem_append_right _ h)) (by decide +kernel))
set_option maxRecDepth 20000 in
theorem gX8_orderHere_X8_figures : GoodIn wsX8_orderHere (wsV RX8 192 RX8 yX8_figures wsX8_figures) := goodIn_app (goodIn_of _ (by decide +kernel)) ggX8_orderHere_X8_figures
theorem dX8_orderHere_0 : decode cX8_orderHere 0 = .ok (.iconst 4, 1) := by decide +kernel
theorem dX8_orderHere_1 : decode cX8_orderHere 1 = .ok (.aload_n 0, 1) := by decide +kernel
theorem dX8_orderHere_2 : decode cX8_orderHere 2 = .ok (.getfield 186, 3) := by decide +kernel
theorem dX8_orderHere_5 : decode cX8_orderHere 5 = .ok (.imul, 1) := by decide +kernel
theorem dX8_orderHere_6 : decode cX8_orderHere 6 = .ok (.istore_n 1, 1) := by decide +kernel
theorem dX8_orderHere_7 : decode cX8_orderHere 7 = .ok (.aload_n 0, 1) := by decide +kernel
theorem dX8_orderHere_8 : decode cX8_orderHere 8 = .ok (.getfield 33, 3) := by decide +kernel
theorem dX8_orderHere_11 : decode cX8_orderHere 11 = .ok (.iload_n 1, 1) := by decide +kernel
theorem dX8_orderHere_12 : decode cX8_orderHere 12 = .ok (.aload_n 0, 1) := by decide +kernel
theorem dX8_orderHere_13 : decode cX8_orderHere 13 = .ok (.invokevirtual 183, 3) := by decide +kernel
theorem dX8_orderHere_16 : decode cX8_orderHere 16 = .ok (.iastore, 1) := by decide +kernel
theorem dX8_orderHere_17 : decode cX8_orderHere 17 = .ok (.aload_n 0, 1) := by decide +kernel
theorem dX8_orderHere_18 : decode cX8_orderHere 18 = .ok (.bipush 104, 2) := by decide +kernel
theorem dX8_orderHere_20 : decode cX8_orderHere 20 = .ok (.invokevirtual 189, 3) := by decide +kernel
theorem dX8_orderHere_23 : decode cX8_orderHere 23 = .ok (.ifCond .ne 12, 3) := by decide +kernel
theorem dX8_orderHere_26 : decode cX8_orderHere 26 = .ok (.aload_n 0, 1) := by decide +kernel
theorem dX8_orderHere_27 : decode cX8_orderHere 27 = .ok (.bipush 119, 2) := by decide +kernel
theorem dX8_orderHere_29 : decode cX8_orderHere 29 = .ok (.invokevirtual 189, 3) := by decide +kernel
theorem dX8_orderHere_32 : decode cX8_orderHere 32 = .ok (.ifCond .eq 5, 3) := by decide +kernel
theorem dX8_orderHere_35 : decode cX8_orderHere 35 = .ok (.iconst 1, 1) := by decide +kernel
theorem dX8_orderHere_36 : decode cX8_orderHere 36 = .ok (.ireturn, 1) := by decide +kernel
theorem dX8_orderHere_37 : decode cX8_orderHere 37 = .ok (.aload_n 0, 1) := by decide +kernel
theorem dX8_orderHere_38 : decode cX8_orderHere 38 = .ok (.bipush 109, 2) := by decide +kernel
theorem dX8_orderHere_40 : decode cX8_orderHere 40 = .ok (.invokevirtual 189, 3) := by decide +kernel
theorem dX8_orderHere_43 : decode cX8_orderHere 43 = .ok (.ifCond .ne 12, 3) := by decide +kernel
theorem dX8_orderHere_46 : decode cX8_orderHere 46 = .ok (.aload_n 0, 1) := by decide +kernel
theorem dX8_orderHere_47 : decode cX8_orderHere 47 = .ok (.bipush 116, 2) := by decide +kernel
theorem dX8_orderHere_49 : decode cX8_orderHere 49 = .ok (.invokevirtual 189, 3) := by decide +kernel
theorem dX8_orderHere_52 : decode cX8_orderHere 52 = .ok (.ifCond .eq 12, 3) := by decide +kernel
theorem dX8_orderHere_55 : decode cX8_orderHere 55 = .ok (.aload_n 0, 1) := by decide +kernel
theorem dX8_orderHere_56 : decode cX8_orderHere 56 = .ok (.iload_n 1, 1) := by decide +kernel
theorem dX8_orderHere_57 : decode cX8_orderHere 57 = .ok (.iconst 1, 1) := by decide +kernel
theorem dX8_orderHere_58 : decode cX8_orderHere 58 = .ok (.iadd, 1) := by decide +kernel
theorem dX8_orderHere_59 : decode cX8_orderHere 59 = .ok (.iconst 3, 1) := by decide +kernel
theorem dX8_orderHere_60 : decode cX8_orderHere 60 = .ok (.invokevirtual 192, 3) := by decide +kernel
theorem dX8_orderHere_63 : decode cX8_orderHere 63 = .ok (.ireturn, 1) := by decide +kernel
theorem dX8_orderHere_64 : decode cX8_orderHere 64 = .ok (.aload_n 0, 1) := by decide +kernel
theorem dX8_orderHere_65 : decode cX8_orderHere 65 = .ok (.bipush 98, 2) := by decide +kernel
theorem dX8_orderHere_67 : decode cX8_orderHere 67 = .ok (.invokevirtual 189, 3) := by decide +kernel
theorem dX8_orderHere_70 : decode cX8_orderHere 70 = .ok (.ifCond .ne 39, 3) := by decide +kernel
theorem dX8_orderHere_73 : decode cX8_orderHere 73 = .ok (.aload_n 0, 1) := by decide +kernel
theorem dX8_orderHere_74 : decode cX8_orderHere 74 = .ok (.bipush 105, 2) := by decide +kernel
theorem dX8_orderHere_76 : decode cX8_orderHere 76 = .ok (.invokevirtual 189, 3) := by decide +kernel
theorem dX8_orderHere_79 : decode cX8_orderHere 79 = .ok (.ifCond .ne 30, 3) := by decide +kernel
theorem dX8_orderHere_82 : decode cX8_orderHere 82 = .ok (.aload_n 0, 1) := by decide +kernel
theorem dX8_orderHere_83 : decode cX8_orderHere 83 = .ok (.bipush 111, 2) := by decide +kernel
theorem dX8_orderHere_85 : decode cX8_orderHere 85 = .ok (.invokevirtual 189, 3) := by decide +kernel
theorem dX8_orderHere_88 : decode cX8_orderHere 88 = .ok (.ifCond .ne 21, 3) := by decide +kernel
theorem dX8_orderHere_91 : decode cX8_orderHere 91 = .ok (.aload_n 0, 1) := by decide +kernel
theorem dX8_orderHere_92 : decode cX8_orderHere 92 = .ok (.bipush 115, 2) := by decide +kernel
theorem dX8_orderHere_94 : decode cX8_orderHere 94 = .ok (.invokevirtual 189, 3) := by decide +kernel
theorem dX8_orderHere_97 : decode cX8_orderHere 97 = .ok (.ifCond .ne 12, 3) := by decide +kernel
theorem dX8_orderHere_100 : decode cX8_orderHere 100 = .ok (.aload_n 0, 1) := by decide +kernel
theorem dX8_orderHere_101 : decode cX8_orderHere 101 = .ok (.bipush 114, 2) := by decide +kernel
theorem dX8_orderHere_103 : decode cX8_orderHere 103 = .ok (.invokevirtual 189, 3) := by decide +kernel
theorem dX8_orderHere_106 : decode cX8_orderHere 106 = .ok (.ifCond .eq 18, 3) := by decide +kernel
theorem dX8_orderHere_109 : decode cX8_orderHere 109 = .ok (.aload_n 0, 1) := by decide +kernel
theorem dX8_orderHere_110 : decode cX8_orderHere 110 = .ok (.iload_n 1, 1) := by decide +kernel
theorem dX8_orderHere_111 : decode cX8_orderHere 111 = .ok (.iconst 1, 1) := by decide +kernel
theorem dX8_orderHere_112 : decode cX8_orderHere 112 = .ok (.iadd, 1) := by decide +kernel
theorem dX8_orderHere_113 : decode cX8_orderHere 113 = .ok (.iconst 1, 1) := by decide +kernel
theorem dX8_orderHere_114 : decode cX8_orderHere 114 = .ok (.invokevirtual 192, 3) := by decide +kernel
theorem dX8_orderHere_117 : decode cX8_orderHere 117 = .ok (.ifCond .eq 7, 3) := by decide +kernel
theorem dX8_orderHere_120 : decode cX8_orderHere 120 = .ok (.iconst 1, 1) := by decide +kernel
theorem dX8_orderHere_121 : decode cX8_orderHere 121 = .ok (.goto 4, 3) := by decide +kernel
theorem dX8_orderHere_124 : decode cX8_orderHere 124 = .ok (.iconst 0, 1) := by decide +kernel
theorem dX8_orderHere_125 : decode cX8_orderHere 125 = .ok (.ireturn, 1) := by decide +kernel
set_option maxRecDepth 20000 in
theorem ggX8_isText_X8_orderHere : GoodIn wsX8_isText wsX8_orderHere := goodIn_ca (goodIn_r _ [8, 2, 9, 10, 11, 12, 7, 13, 1, 3, 14, 15, 16, 17, 18, 19, 20, 21, 22, 23, 24, 25, 26, 27, 28, 29, 30, 31, 32, 33, 34, 35, 36, 37, 38, 39, 40, 41, 42, 43, 44] (by decide +kernel) (by decide +kernel)) (goodIn_sub (fun _ h => List.mem_cons_of_mem _ (List.mem_append_right _ h)) (by decide +kernel))
set_option maxRecDepth 20000 in
theorem gX8_isText_X8_orderHere : GoodIn wsX8_isText (wsV RX8 195 RX8 yX8_orderHere wsX8_orderHere) := goodIn_app (goodIn_of _ (by decide +kernel)) ggX8_isText_X8_orderHere
set_option maxRecDepth 20000 in
theorem ggX8_isText_X8_skips : GoodIn wsX8_isText wsX8_skips := goodIn_ca (goodIn_r _ [18, 1, 10, 11, 12, 7, 13, 3, 14, 26, 27, 28, 29, 30, 31, 32, 33, 34, 35, 36, 37, 38, 39, 40, 41, 42, 43, 44] (by decide +kernel) (by decide +kernel)) (goodIn_sub (fun _ h => List.mem_cons_of_mem _ (List.mem_append_right _ h)) (by decide +kernel))
set_option maxRecDepth 20000 in
theorem gX8_isText_X8_skips : GoodIn wsX8_isText (wsV RX8 189 RX8 yX8_skips wsX8_skips) := goodIn_app (goodIn_of _ (by decide +kernel)) ggX8_isText_X8_skips
theorem dX8_isText_0 : decode cX8_isText 0 = .ok (.aload_n 0, 1) := by decide +kernel
theorem dX8_isText_1 : decode cX8_isText 1 = .ok (.iconst 0, 1) := by decide +kernel
theorem dX8_isText_2 : decode cX8_isText 2 = .ok (.putfield 180, 3) := by decide +kernel
theorem dX8_isText_5 : decode cX8_isText 5 = .ok (.aload_n 0, 1) := by decide +kernel
theorem dX8_isText_6 : decode cX8_isText 6 = .ok (.iconst 0, 1) := by decide +kernel
theorem dX8_isText_7 : decode cX8_isText 7 = .ok (.putfield 186, 3) := by decide +kernel
theorem dX8_isText_10 : decode cX8_isText 10 = .ok (.aload_n 0, 1) := by decide +kernel
theorem dX8_isText_11 : decode cX8_isText 11 = .ok (.invokevirtual 195, 3) := by decide +kernel
theorem dX8_isText_14 : decode cX8_isText 14 = .ok (.ifCond .ne 5, 3) := by decide +kernel
theorem dX8_isText_17 : decode cX8_isText 17 = .ok (.iconst 0, 1) := by decide +kernel
theorem dX8_isText_18 : decode cX8_isText 18 = .ok (.ireturn, 1) := by decide +kernel
theorem dX8_isText_19 : decode cX8_isText 19 = .ok (.aload_n 0, 1) := by decide +kernel
theorem dX8_isText_20 : decode cX8_isText 20 = .ok (.dup, 1) := by decide +kernel
theorem dX8_isText_21 : decode cX8_isText 21 = .ok (.getfield 186, 3) := by decide +kernel
theorem dX8_isText_24 : decode cX8_isText 24 = .ok (.iconst 1, 1) := by decide +kernel
theorem dX8_isText_25 : decode cX8_isText 25 = .ok (.iadd, 1) := by decide +kernel
theorem dX8_isText_26 : decode cX8_isText 26 = .ok (.putfield 186, 3) := by decide +kernel
theorem dX8_isText_29 : decode cX8_isText 29 = .ok (.aload_n 0, 1) := by decide +kernel
theorem dX8_isText_30 : decode cX8_isText 30 = .ok (.bipush 59, 2) := by decide +kernel
theorem dX8_isText_32 : decode cX8_isText 32 = .ok (.invokevirtual 189, 3) := by decide +kernel
theorem dX8_isText_35 : decode cX8_isText 35 = .ok (.ifCond .ne (-25), 3) := by decide +kernel
theorem dX8_isText_38 : decode cX8_isText 38 = .ok (.aload_n 0, 1) := by decide +kernel
theorem dX8_isText_39 : decode cX8_isText 39 = .ok (.getfield 180, 3) := by decide +kernel
theorem dX8_isText_42 : decode cX8_isText 42 = .ok (.aload_n 0, 1) := by decide +kernel
theorem dX8_isText_43 : decode cX8_isText 43 = .ok (.getfield 177, 3) := by decide +kernel
theorem dX8_isText_46 : decode cX8_isText 46 = .ok (.if_icmp .ne 7, 3) := by decide +kernel
theorem dX8_isText_49 : decode cX8_isText 49 = .ok (.iconst 1, 1) := by decide +kernel
theorem dX8_isText_50 : decode cX8_isText 50 = .ok (.goto 4, 3) := by decide +kernel
theorem dX8_isText_53 : decode cX8_isText 53 = .ok (.iconst 0, 1) := by decide +kernel
theorem dX8_isText_54 : decode cX8_isText 54 = .ok (.ireturn, 1) := by decide +kernel
set_option maxRecDepth 20000 in
theorem ggX8_carries_X8_make : GoodIn wsX8_carries wsX8_make := goodIn_ca (goodIn_r _ [6, 7, 8, 9, 5, 10, 11, 12, 13, 14, 15, 16, 17, 18, 19, 20, 21, 22, 23, 24, 25, 26, 27, 28, 29, 30, 31, 32, 33, 34, 35, 36, 37, 38, 39, 40, 41, 42, 43, 44, 45, 46, 47, 150, 151, 152, 153, 154, 155, 156, 157, 158, 159, 160, 161, 162, 163, 164, 165, 166, 167, 168] (by decide +kernel) (by decide +kernel)) (goodIn_sub (fun _ h => List.mem_cons_of_mem _ (List.mem_append_right _ h)) (by decide +kernel))
set_option maxRecDepth 20000 in
theorem gX8_carries_X8_make : GoodIn wsX8_carries (wsV RX8 199 RX8 yX8_make wsX8_make) := goodIn_app (goodIn_of _ (by decide +kernel)) ggX8_carries_X8_make
set_option maxRecDepth 20000 in
theorem ggX8_carries_X8_blank : GoodIn wsX8_carries wsX8_blank := goodIn_ca (goodIn_r _ [51, 7, 8, 9, 5, 10, 11, 12, 13, 14, 15, 16, 17, 18, 19, 20, 21, 22, 23, 24, 25, 26, 27, 28, 29, 30, 31, 32, 33, 34, 35, 36, 37, 38, 39, 40, 41, 42, 43, 44, 45, 46, 47, 150, 151, 152, 153, 154, 155, 156, 157, 158, 159, 160, 161, 162, 163, 164, 165, 166, 167, 168] (by decide +kernel) (by decide +kernel)) (goodIn_sub (fun _ h => List.mem_cons_of_mem _ (List.mem_append_right _ h)) (by decide +kernel))
set_option maxRecDepth 20000 in
theorem gX8_carries_X8_blank : GoodIn wsX8_carries (wsV RX8 202 RX8 yX8_blank wsX8_blank) := goodIn_app (goodIn_of _ (by decide +kernel)) ggX8_carries_X8_blank
set_option maxRecDepth 20000 in
theorem ggX8_carries_X8_tell : GoodIn wsX8_carries wsX8_tell := goodIn_ca (goodIn_r _ [55, 7, 8, 9, 5, 10, 11, 12, 13, 14, 15, 16, 17, 18, 19, 20, 21, 22, 23, 24, 25, 26, 27, 28, 29, 30, 31, 32, 33, 34, 35, 36, 37, 38, 39, 44, 45, 46, 47, 150, 151, 152, 153, 154, 155, 156, 157, 158, 159, 160, 161, 162, 163, 164, 165, 166, 167, 168] (by decide +kernel) (by decide +kernel)) (goodIn_sub (fun _ h => List.mem_cons_of_mem _ (List.mem_append_right _ h)) (by decide +kernel))
set_option maxRecDepth 20000 in
theorem gX8_carries_X8_tell : GoodIn wsX8_carries (wsV RX8 205 RX8 yX8_tell wsX8_tell) := goodIn_app (goodIn_of _ (by decide +kernel)) ggX8_carries_X8_tell
set_option maxRecDepth 20000 in
theorem ggX8_carries_X8_inspect : GoodIn wsX8_carries wsX8_inspect := goodIn_ca (goodIn_r _ [59, 7, 8, 9, 5, 10, 11, 12, 13, 14, 15, 16, 17, 18, 19, 20, 21, 22, 23, 24, 25, 26, 27, 28, 29, 30, 31, 32, 33, 34, 35, 36, 37, 38, 39, 60, 61, 62, 63, 64, 65, 66, 67, 68, 69, 70, 71, 72, 73, 74, 75, 76, 77, 78, 79, 80, 81, 82, 83, 84, 85, 86, 87, 88, 89, 90, 91, 92, 93, 94, 95, 96, 97, 44, 45, 46, 47, 98, 99, 100, 101, 150, 151, 152, 153, 154, 155, 156, 157, 158, 159, 160, 161, 162, 163, 164, 165, 166, 167, 168] (by decide +kernel) (by decide +kernel)) (goodIn_sub (fun _ h => List.mem_cons_of_mem _ (List.mem_append_right _ h)) (by decide +kernel))
set_option maxRecDepth 20000 in
theorem gX8_carries_X8_inspect : GoodIn wsX8_carries (wsV RX8 208 RX8 yX8_inspect wsX8_inspect) := goodIn_app (goodIn_of _ (by decide +kernel)) ggX8_carries_X8_inspect
set_option maxRecDepth 20000 in
theorem ggX8_carries_X8_hire : GoodIn wsX8_carries wsX8_hire := goodIn_ca (goodIn_r _ [105, 7, 24, 25, 26, 5, 27, 18, 19, 28, 29, 30, 31, 32, 33, 34, 35, 36, 37, 38, 39, 150, 151, 152, 153, 154, 155, 156, 157, 158, 159, 160, 161, 162, 163, 164, 165, 166, 167, 168] (by decide +kernel) (by decide +kernel)) (goodIn_sub (fun _ h => List.mem_cons_of_mem _ (List.mem_append_right _ h)) (by decide +kernel))
set_option maxRecDepth 20000 in
theorem gX8_carries_X8_hire : GoodIn wsX8_carries (wsV RX8 211 RX8 yX8_hire wsX8_hire) := goodIn_app (goodIn_of _ (by decide +kernel)) ggX8_carries_X8_hire
set_option maxRecDepth 20000 in
theorem ggX8_carries_X8_leave : GoodIn wsX8_carries wsX8_leave := goodIn_ca (goodIn_r _ [109, 7, 110, 111, 112, 5, 113, 11, 12, 13, 14, 15, 16, 17, 18, 19, 30, 31, 32, 33, 34, 35, 36, 37, 38, 39, 150, 151, 152, 153, 154, 155, 156, 157, 158, 159, 160, 161, 162, 163, 164, 165, 166, 167, 168] (by decide +kernel) (by decide +kernel)) (goodIn_sub (fun _ h => List.mem_cons_of_mem _ (List.mem_append_right _ h)) (by decide +kernel))
set_option maxRecDepth 20000 in
theorem gX8_carries_X8_leave : GoodIn wsX8_carries (wsV RX8 214 RX8 yX8_leave wsX8_leave) := goodIn_app (goodIn_of _ (by decide +kernel)) ggX8_carries_X8_leave
set_option maxRecDepth 20000 in
theorem ggX8_carries_X8_sell : GoodIn wsX8_carries wsX8_sell := goodIn_ca (goodIn_r _ [117, 7, 118, 119, 120, 5, 121, 11, 12, 13, 14, 15, 16, 17, 18, 19, 30, 31, 32, 33, 34, 35, 36, 37, 38, 39, 122, 123, 124, 125, 126, 127, 128, 129, 130, 131, 132, 133, 150, 151, 152, 153, 154, 155, 156, 157, 158, 159, 160, 161, 162, 163, 164, 165, 166, 167, 168] (by decide +kernel) (by decide +kernel)) (goodIn_sub (fun _ h => List.mem_cons_of_mem _ (List.mem_append_right _ h)) (by decide +kernel))
set_option maxRecDepth 20000 in
theorem gX8_carries_X8_sell : GoodIn wsX8_carries (wsV RX8 217 RX8 yX8_sell wsX8_sell) := goodIn_app (goodIn_of _ (by decide +kernel)) ggX8_carries_X8_sell
set_option maxRecDepth 20000 in
theorem ggX8_carries_X8_repair : GoodIn wsX8_carries wsX8_repair := goodIn_ca (goodIn_r _ [137, 7, 118, 119, 120, 5, 121, 11, 12, 13, 14, 15, 16, 17, 18, 19, 20, 21, 22, 23, 24, 25, 26, 27, 28, 29, 138, 139, 140, 141, 126, 127, 128, 129, 30, 31, 32, 33, 34, 35, 36, 37, 38, 39, 91, 92, 93, 40, 41, 42, 43, 44, 45, 46, 47, 130, 131, 132, 133, 150, 151, 152, 153, 154, 155, 156, 157, 158, 159, 160, 161, 162, 163, 164, 165, 166, 167, 168] (by decide +kernel) (by decide +kernel)) (goodIn_sub (fun _ h => List.mem_cons_of_mem _ (List.mem_append_right _ h)) (by decide +kernel))
set_option maxRecDepth 20000 in
theorem gX8_carries_X8_repair : GoodIn wsX8_carries (wsV RX8 220 RX8 yX8_repair wsX8_repair) := goodIn_app (goodIn_of _ (by decide +kernel)) ggX8_carries_X8_repair
set_option maxRecDepth 20000 in
theorem ggX8_carries_X8_week : GoodIn wsX8_carries wsX8_week := goodIn_ca (goodIn_r _ [145, 7, 30, 31, 32, 5, 33, 18, 34, 35, 36, 37, 38, 39, 20, 21, 22, 23, 72, 73, 74, 75, 76, 77, 78, 79, 94, 95, 96, 97, 44, 45, 46, 47, 146, 147, 148, 149, 40, 41, 42, 43, 87, 88, 89, 90, 91, 92, 93, 150, 151, 152, 153, 154, 155, 156, 157, 158, 159, 160, 161, 162, 163, 164, 165, 166, 167, 168] (by decide +kernel) (by decide +kernel)) (goodIn_sub (fun _ h => List.mem_cons_of_mem _ (List.mem_append_right _ h)) (by decide +kernel))
set_option maxRecDepth 20000 in
theorem gX8_carries_X8_week : GoodIn wsX8_carries (wsV RX8 223 RX8 yX8_week wsX8_week) := goodIn_app (goodIn_of _ (by decide +kernel)) ggX8_carries_X8_week
theorem dX8_carries_0 : decode cX8_carries 0 = .ok (.aload_n 0, 1) := by decide +kernel
theorem dX8_carries_1 : decode cX8_carries 1 = .ok (.getfield 33, 3) := by decide +kernel
theorem dX8_carries_4 : decode cX8_carries 4 = .ok (.iload_n 1, 1) := by decide +kernel
theorem dX8_carries_5 : decode cX8_carries 5 = .ok (.iconst 1, 1) := by decide +kernel
theorem dX8_carries_6 : decode cX8_carries 6 = .ok (.iadd, 1) := by decide +kernel
theorem dX8_carries_7 : decode cX8_carries 7 = .ok (.iaload, 1) := by decide +kernel
theorem dX8_carries_8 : decode cX8_carries 8 = .ok (.istore_n 2, 1) := by decide +kernel
theorem dX8_carries_9 : decode cX8_carries 9 = .ok (.aload_n 0, 1) := by decide +kernel
theorem dX8_carries_10 : decode cX8_carries 10 = .ok (.getfield 33, 3) := by decide +kernel
theorem dX8_carries_13 : decode cX8_carries 13 = .ok (.iload_n 1, 1) := by decide +kernel
theorem dX8_carries_14 : decode cX8_carries 14 = .ok (.iaload, 1) := by decide +kernel
theorem dX8_carries_15 : decode cX8_carries 15 = .ok (.tableswitch 168 98 116 #[111, 168, 168, 168, 168, 168, 145, 139, 168, 168, 168, 89, 168, 150, 168, 168, 162, 156, 117], 89) := by decide +kernel
theorem dX8_carries_104 : decode cX8_carries 104 = .ok (.aload_n 0, 1) := by decide +kernel
theorem dX8_carries_105 : decode cX8_carries 105 = .ok (.iload_n 2, 1) := by decide +kernel
theorem dX8_carries_106 : decode cX8_carries 106 = .ok (.aload_n 0, 1) := by decide +kernel
theorem dX8_carries_107 : decode cX8_carries 107 = .ok (.getfield 33, 3) := by decide +kernel
theorem dX8_carries_110 : decode cX8_carries 110 = .ok (.iload_n 1, 1) := by decide +kernel
theorem dX8_carries_111 : decode cX8_carries 111 = .ok (.iconst 2, 1) := by decide +kernel
theorem dX8_carries_112 : decode cX8_carries 112 = .ok (.iadd, 1) := by decide +kernel
theorem dX8_carries_113 : decode cX8_carries 113 = .ok (.iaload, 1) := by decide +kernel
theorem dX8_carries_114 : decode cX8_carries 114 = .ok (.aload_n 0, 1) := by decide +kernel
theorem dX8_carries_115 : decode cX8_carries 115 = .ok (.getfield 33, 3) := by decide +kernel
theorem dX8_carries_118 : decode cX8_carries 118 = .ok (.iload_n 1, 1) := by decide +kernel
theorem dX8_carries_119 : decode cX8_carries 119 = .ok (.iconst 3, 1) := by decide +kernel
theorem dX8_carries_120 : decode cX8_carries 120 = .ok (.iadd, 1) := by decide +kernel
theorem dX8_carries_121 : decode cX8_carries 121 = .ok (.iaload, 1) := by decide +kernel
theorem dX8_carries_122 : decode cX8_carries 122 = .ok (.invokevirtual 199, 3) := by decide +kernel
theorem dX8_carries_125 : decode cX8_carries 125 = .ok (.ireturn, 1) := by decide +kernel
theorem dX8_carries_126 : decode cX8_carries 126 = .ok (.aload_n 0, 1) := by decide +kernel
theorem dX8_carries_127 : decode cX8_carries 127 = .ok (.iload_n 2, 1) := by decide +kernel
theorem dX8_carries_128 : decode cX8_carries 128 = .ok (.invokevirtual 202, 3) := by decide +kernel
theorem dX8_carries_131 : decode cX8_carries 131 = .ok (.ireturn, 1) := by decide +kernel
theorem dX8_carries_132 : decode cX8_carries 132 = .ok (.aload_n 0, 1) := by decide +kernel
theorem dX8_carries_133 : decode cX8_carries 133 = .ok (.iload_n 2, 1) := by decide +kernel
theorem dX8_carries_134 : decode cX8_carries 134 = .ok (.aload_n 0, 1) := by decide +kernel
theorem dX8_carries_135 : decode cX8_carries 135 = .ok (.getfield 33, 3) := by decide +kernel
theorem dX8_carries_138 : decode cX8_carries 138 = .ok (.iload_n 1, 1) := by decide +kernel
theorem dX8_carries_139 : decode cX8_carries 139 = .ok (.iconst 2, 1) := by decide +kernel
theorem dX8_carries_140 : decode cX8_carries 140 = .ok (.iadd, 1) := by decide +kernel
theorem dX8_carries_141 : decode cX8_carries 141 = .ok (.iaload, 1) := by decide +kernel
theorem dX8_carries_142 : decode cX8_carries 142 = .ok (.aload_n 0, 1) := by decide +kernel
theorem dX8_carries_143 : decode cX8_carries 143 = .ok (.getfield 33, 3) := by decide +kernel
theorem dX8_carries_146 : decode cX8_carries 146 = .ok (.iload_n 1, 1) := by decide +kernel
theorem dX8_carries_147 : decode cX8_carries 147 = .ok (.iconst 3, 1) := by decide +kernel
theorem dX8_carries_148 : decode cX8_carries 148 = .ok (.iadd, 1) := by decide +kernel
theorem dX8_carries_149 : decode cX8_carries 149 = .ok (.iaload, 1) := by decide +kernel
theorem dX8_carries_150 : decode cX8_carries 150 = .ok (.invokevirtual 205, 3) := by decide +kernel
theorem dX8_carries_153 : decode cX8_carries 153 = .ok (.ireturn, 1) := by decide +kernel
theorem dX8_carries_154 : decode cX8_carries 154 = .ok (.aload_n 0, 1) := by decide +kernel
theorem dX8_carries_155 : decode cX8_carries 155 = .ok (.iload_n 2, 1) := by decide +kernel
theorem dX8_carries_156 : decode cX8_carries 156 = .ok (.invokevirtual 208, 3) := by decide +kernel
theorem dX8_carries_159 : decode cX8_carries 159 = .ok (.ireturn, 1) := by decide +kernel
theorem dX8_carries_160 : decode cX8_carries 160 = .ok (.aload_n 0, 1) := by decide +kernel
theorem dX8_carries_161 : decode cX8_carries 161 = .ok (.invokevirtual 211, 3) := by decide +kernel
theorem dX8_carries_164 : decode cX8_carries 164 = .ok (.ireturn, 1) := by decide +kernel
theorem dX8_carries_165 : decode cX8_carries 165 = .ok (.aload_n 0, 1) := by decide +kernel
theorem dX8_carries_166 : decode cX8_carries 166 = .ok (.iload_n 2, 1) := by decide +kernel
theorem dX8_carries_167 : decode cX8_carries 167 = .ok (.invokevirtual 214, 3) := by decide +kernel
theorem dX8_carries_170 : decode cX8_carries 170 = .ok (.ireturn, 1) := by decide +kernel
theorem dX8_carries_171 : decode cX8_carries 171 = .ok (.aload_n 0, 1) := by decide +kernel
theorem dX8_carries_172 : decode cX8_carries 172 = .ok (.iload_n 2, 1) := by decide +kernel
theorem dX8_carries_173 : decode cX8_carries 173 = .ok (.invokevirtual 217, 3) := by decide +kernel
theorem dX8_carries_176 : decode cX8_carries 176 = .ok (.ireturn, 1) := by decide +kernel
theorem dX8_carries_177 : decode cX8_carries 177 = .ok (.aload_n 0, 1) := by decide +kernel
theorem dX8_carries_178 : decode cX8_carries 178 = .ok (.iload_n 2, 1) := by decide +kernel
theorem dX8_carries_179 : decode cX8_carries 179 = .ok (.invokevirtual 220, 3) := by decide +kernel
theorem dX8_carries_182 : decode cX8_carries 182 = .ok (.ireturn, 1) := by decide +kernel
theorem dX8_carries_183 : decode cX8_carries 183 = .ok (.aload_n 0, 1) := by decide +kernel
theorem dX8_carries_184 : decode cX8_carries 184 = .ok (.invokevirtual 223, 3) := by decide +kernel
theorem dX8_carries_187 : decode cX8_carries 187 = .ok (.ireturn, 1) := by decide +kernel
set_option maxRecDepth 20000 in
theorem ggX8_run_X8_isText : GoodIn wsX8_run wsX8_isText := goodIn_ca (goodIn_r _ [14, 1, 7, 3, 15, 16, 17, 13, 18, 19, 20, 21, 22, 23, 24, 25, 26, 27, 28, 29, 30, 31, 32, 33, 34, 35, 180, 181, 182, 183, 184, 185, 186, 187, 188, 189, 190, 191, 192, 193, 194, 195, 196, 197, 198] (by decide +kernel) (by decide +kernel)) (goodIn_sub (fun _ h => List.mem_cons_of_mem _ (List.mem_append_right _ h)) (by decide +kernel))
set_option maxRecDepth 20000 in
theorem gX8_run_X8_isText : GoodIn wsX8_run (wsV RX8 226 RX8 yX8_isText wsX8_isText) := goodIn_app (goodIn_of _ (by decide +kernel)) ggX8_run_X8_isText
set_option maxRecDepth 20000 in
theorem ggX8_run_X8_fails : GoodIn wsX8_run wsX8_fails := goodIn_r _ [39, 8, 9, 180, 181, 182, 183, 184, 185, 186, 187, 188, 189, 190, 191, 192, 193, 194, 195, 196, 197, 198] (by decide +kernel) (by decide +kernel)
set_option maxRecDepth 20000 in
theorem gX8_run_X8_fails : GoodIn wsX8_run (wsV RX8 79 RX8 yX8_fails wsX8_fails) := goodIn_app (goodIn_of _ (by decide +kernel)) ggX8_run_X8_fails
set_option maxRecDepth 20000 in
theorem ggX8_run_X8_copies : GoodIn wsX8_run wsX8_copies := goodIn_ca (goodIn_r _ [42] (by decide +kernel) (by decide +kernel)) (goodIn_sub (fun _ h => List.mem_cons_of_mem _ (List.mem_append_right _ h)) (by decide +kernel))
set_option maxRecDepth 20000 in
theorem gX8_run_X8_copies : GoodIn wsX8_run (va_wsS RX8 59 yX8_copies wsX8_copies) := goodIn_app (goodIn_of _ (by decide +kernel)) ggX8_run_X8_copies
set_option maxRecDepth 20000 in
theorem ggX8_run_X8_carries : GoodIn wsX8_run wsX8_carries := goodIn_ca (goodIn_r _ [46, 19, 47, 48, 49, 13, 50, 4, 51, 52, 53, 33, 34, 35, 36, 37, 38, 39, 8, 9, 54, 55, 56, 57, 58, 59, 60, 61, 62, 63, 64, 65, 66, 67, 6, 68, 69, 40, 41, 42, 70, 71, 72, 73, 74, 75, 76, 77, 78, 79, 80, 81, 82, 83, 84, 85, 86, 87, 88, 89, 90, 91, 92, 93, 94, 95, 96, 97, 98, 99, 100, 101, 102, 103, 104, 105, 106, 107, 108, 109, 110, 111, 112, 113, 114, 115, 116, 117, 118, 119, 120, 121, 122, 123, 124, 125, 126, 127, 128, 129, 130, 131, 132, 133, 134, 135, 136, 137, 138, 139, 140, 141, 142, 143, 144, 145, 146, 147, 148, 149, 150, 151, 152, 153, 154, 155, 156, 157, 158, 159, 160, 161, 162, 163, 164, 165, 166, 167, 168, 169, 170, 171, 172, 173, 174, 175, 176, 177, 178, 179, 180, 181, 182, 183, 184, 185, 186, 187, 188, 189, 190, 191, 192, 193, 194, 195, 196, 197, 198] (by decide +kernel) (by decide +kernel)) (goodIn_sub (fun _ h => List.mem_cons_of_mem _ (List.mem_append_right _ h)) (by decide +kernel))
set_option maxRecDepth 20000 in
theorem gX8_run_X8_carries : GoodIn wsX8_run (wsV RX8 229 RX8 yX8_carries wsX8_carries) := goodIn_app (goodIn_of _ (by decide +kernel)) ggX8_run_X8_carries
set_option maxRecDepth 20000 in
theorem ggX8_run_X8_keeps : GoodIn wsX8_run wsX8_keeps := goodIn_ca (goodIn_r _ [67, 8, 6, 68, 69, 40, 41, 13, 42, 180, 181, 182, 183, 184, 185, 186, 187, 188, 189, 190, 191, 192, 193, 194, 195, 196, 197, 198] (by decide +kernel) (by decide +kernel)) (goodIn_sub (fun _ h => List.mem_cons_of_mem _ (List.mem_append_right _ h)) (by decide +kernel))
set_option maxRecDepth 20000 in
theorem gX8_run_X8_keeps : GoodIn wsX8_run (wsV RX8 85 RX8 yX8_keeps wsX8_keeps) := goodIn_app (goodIn_of _ (by decide +kernel)) ggX8_run_X8_keeps
theorem dX8_run_0 : decode cX8_run 0 = .ok (.aload_n 0, 1) := by decide +kernel
theorem dX8_run_1 : decode cX8_run 1 = .ok (.invokevirtual 226, 3) := by decide +kernel
theorem dX8_run_4 : decode cX8_run 4 = .ok (.istore_n 1, 1) := by decide +kernel
theorem dX8_run_5 : decode cX8_run 5 = .ok (.aload_n 0, 1) := by decide +kernel
theorem dX8_run_6 : decode cX8_run 6 = .ok (.iload_n 1, 1) := by decide +kernel
theorem dX8_run_7 : decode cX8_run 7 = .ok (.ifCond .eq 7, 3) := by decide +kernel
theorem dX8_run_10 : decode cX8_run 10 = .ok (.iconst (-1), 1) := by decide +kernel
theorem dX8_run_11 : decode cX8_run 11 = .ok (.goto 7, 3) := by decide +kernel
theorem dX8_run_14 : decode cX8_run 14 = .ok (.aload_n 0, 1) := by decide +kernel
theorem dX8_run_15 : decode cX8_run 15 = .ok (.getfield 180, 3) := by decide +kernel
theorem dX8_run_18 : decode cX8_run 18 = .ok (.putfield 25, 3) := by decide +kernel
theorem dX8_run_21 : decode cX8_run 21 = .ok (.aload_n 0, 1) := by decide +kernel
theorem dX8_run_22 : decode cX8_run 22 = .ok (.iconst 0, 1) := by decide +kernel
theorem dX8_run_23 : decode cX8_run 23 = .ok (.putfield 177, 3) := by decide +kernel
theorem dX8_run_26 : decode cX8_run 26 = .ok (.aload_n 0, 1) := by decide +kernel
theorem dX8_run_27 : decode cX8_run 27 = .ok (.iload_n 1, 1) := by decide +kernel
theorem dX8_run_28 : decode cX8_run 28 = .ok (.ifCond .eq 7, 3) := by decide +kernel
theorem dX8_run_31 : decode cX8_run 31 = .ok (.iconst 0, 1) := by decide +kernel
theorem dX8_run_32 : decode cX8_run 32 = .ok (.goto 4, 3) := by decide +kernel
theorem dX8_run_35 : decode cX8_run 35 = .ok (.iconst 1, 1) := by decide +kernel
theorem dX8_run_36 : decode cX8_run 36 = .ok (.invokevirtual 79, 3) := by decide +kernel
theorem dX8_run_39 : decode cX8_run 39 = .ok (.ifCond .eq 5, 3) := by decide +kernel
theorem dX8_run_42 : decode cX8_run 42 = .ok (.iconst 0, 1) := by decide +kernel
theorem dX8_run_43 : decode cX8_run 43 = .ok (.ireturn, 1) := by decide +kernel
theorem dX8_run_44 : decode cX8_run 44 = .ok (.aload_n 0, 1) := by decide +kernel
theorem dX8_run_45 : decode cX8_run 45 = .ok (.getfield 7, 3) := by decide +kernel
theorem dX8_run_48 : decode cX8_run 48 = .ok (.iconst 0, 1) := by decide +kernel
theorem dX8_run_49 : decode cX8_run 49 = .ok (.aload_n 0, 1) := by decide +kernel
theorem dX8_run_50 : decode cX8_run 50 = .ok (.getfield 19, 3) := by decide +kernel
theorem dX8_run_53 : decode cX8_run 53 = .ok (.iconst 0, 1) := by decide +kernel
theorem dX8_run_54 : decode cX8_run 54 = .ok (.invokestatic 59, 3) := by decide +kernel
theorem dX8_run_57 : decode cX8_run 57 = .ok (.aload_n 0, 1) := by decide +kernel
theorem dX8_run_58 : decode cX8_run 58 = .ok (.iconst 1, 1) := by decide +kernel
theorem dX8_run_59 : decode cX8_run 59 = .ok (.putfield 53, 3) := by decide +kernel
theorem dX8_run_62 : decode cX8_run 62 = .ok (.iconst 0, 1) := by decide +kernel
theorem dX8_run_63 : decode cX8_run 63 = .ok (.istore_n 2, 1) := by decide +kernel
theorem dX8_run_64 : decode cX8_run 64 = .ok (.iconst 0, 1) := by decide +kernel
theorem dX8_run_65 : decode cX8_run 65 = .ok (.istore_n 3, 1) := by decide +kernel
theorem dX8_run_66 : decode cX8_run 66 = .ok (.iload_n 2, 1) := by decide +kernel
theorem dX8_run_67 : decode cX8_run 67 = .ok (.aload_n 0, 1) := by decide +kernel
theorem dX8_run_68 : decode cX8_run 68 = .ok (.getfield 186, 3) := by decide +kernel
theorem dX8_run_71 : decode cX8_run 71 = .ok (.if_icmp .ge 31, 3) := by decide +kernel
theorem dX8_run_74 : decode cX8_run 74 = .ok (.aload_n 0, 1) := by decide +kernel
theorem dX8_run_75 : decode cX8_run 75 = .ok (.getfield 40, 3) := by decide +kernel
theorem dX8_run_78 : decode cX8_run 78 = .ok (.ifCond .ne 24, 3) := by decide +kernel
theorem dX8_run_81 : decode cX8_run 81 = .ok (.aload_n 0, 1) := by decide +kernel
theorem dX8_run_82 : decode cX8_run 82 = .ok (.iconst 4, 1) := by decide +kernel
theorem dX8_run_83 : decode cX8_run 83 = .ok (.iload_n 2, 1) := by decide +kernel
theorem dX8_run_84 : decode cX8_run 84 = .ok (.imul, 1) := by decide +kernel
theorem dX8_run_85 : decode cX8_run 85 = .ok (.invokevirtual 229, 3) := by decide +kernel
theorem dX8_run_88 : decode cX8_run 88 = .ok (.istore_n 3, 1) := by decide +kernel
theorem dX8_run_89 : decode cX8_run 89 = .ok (.aload_n 0, 1) := by decide +kernel
theorem dX8_run_90 : decode cX8_run 90 = .ok (.getfield 40, 3) := by decide +kernel
theorem dX8_run_93 : decode cX8_run 93 = .ok (.ifCond .ne (-27), 3) := by decide +kernel
theorem dX8_run_96 : decode cX8_run 96 = .ok (.iinc 2 1, 3) := by decide +kernel
theorem dX8_run_99 : decode cX8_run 99 = .ok (.goto (-33), 3) := by decide +kernel
theorem dX8_run_102 : decode cX8_run 102 = .ok (.aload_n 0, 1) := by decide +kernel
theorem dX8_run_103 : decode cX8_run 103 = .ok (.iconst 0, 1) := by decide +kernel
theorem dX8_run_104 : decode cX8_run 104 = .ok (.putfield 53, 3) := by decide +kernel
theorem dX8_run_107 : decode cX8_run 107 = .ok (.aload_n 0, 1) := by decide +kernel
theorem dX8_run_108 : decode cX8_run 108 = .ok (.getfield 40, 3) := by decide +kernel
theorem dX8_run_111 : decode cX8_run 111 = .ok (.ifCond .le 42, 3) := by decide +kernel
theorem dX8_run_114 : decode cX8_run 114 = .ok (.aload_n 0, 1) := by decide +kernel
theorem dX8_run_115 : decode cX8_run 115 = .ok (.getfield 19, 3) := by decide +kernel
theorem dX8_run_118 : decode cX8_run 118 = .ok (.iconst 0, 1) := by decide +kernel
theorem dX8_run_119 : decode cX8_run 119 = .ok (.aload_n 0, 1) := by decide +kernel
theorem dX8_run_120 : decode cX8_run 120 = .ok (.getfield 7, 3) := by decide +kernel
theorem dX8_run_123 : decode cX8_run 123 = .ok (.iconst 0, 1) := by decide +kernel
theorem dX8_run_124 : decode cX8_run 124 = .ok (.invokestatic 59, 3) := by decide +kernel
theorem dX8_run_127 : decode cX8_run 127 = .ok (.aload_n 0, 1) := by decide +kernel
theorem dX8_run_128 : decode cX8_run 128 = .ok (.aload_n 0, 1) := by decide +kernel
theorem dX8_run_129 : decode cX8_run 129 = .ok (.getfield 43, 3) := by decide +kernel
theorem dX8_run_132 : decode cX8_run 132 = .ok (.ifCond .eq 7, 3) := by decide +kernel
theorem dX8_run_135 : decode cX8_run 135 = .ok (.iconst 2, 1) := by decide +kernel
theorem dX8_run_136 : decode cX8_run 136 = .ok (.goto 4, 3) := by decide +kernel
theorem dX8_run_139 : decode cX8_run 139 = .ok (.iconst 1, 1) := by decide +kernel
theorem dX8_run_140 : decode cX8_run 140 = .ok (.putfield 40, 3) := by decide +kernel
theorem dX8_run_143 : decode cX8_run 143 = .ok (.iload_n 3, 1) := by decide +kernel
theorem dX8_run_144 : decode cX8_run 144 = .ok (.ifCond .le 7, 3) := by decide +kernel
theorem dX8_run_147 : decode cX8_run 147 = .ok (.iconst 0, 1) := by decide +kernel
theorem dX8_run_148 : decode cX8_run 148 = .ok (.goto 4, 3) := by decide +kernel
theorem dX8_run_151 : decode cX8_run 151 = .ok (.iload_n 3, 1) := by decide +kernel
theorem dX8_run_152 : decode cX8_run 152 = .ok (.ireturn, 1) := by decide +kernel
theorem dX8_run_153 : decode cX8_run 153 = .ok (.aload_n 0, 1) := by decide +kernel
theorem dX8_run_154 : decode cX8_run 154 = .ok (.aload_n 0, 1) := by decide +kernel
theorem dX8_run_155 : decode cX8_run 155 = .ok (.getfield 19, 3) := by decide +kernel
theorem dX8_run_158 : decode cX8_run 158 = .ok (.invokevirtual 85, 3) := by decide +kernel
theorem dX8_run_161 : decode cX8_run 161 = .ok (.aload_n 0, 1) := by decide +kernel
theorem dX8_run_162 : decode cX8_run 162 = .ok (.getfield 186, 3) := by decide +kernel
theorem dX8_run_165 : decode cX8_run 165 = .ok (.ireturn, 1) := by decide +kernel
theorem dX8_errorPosition_0 : decode cX8_errorPosition 0 = .ok (.aload_n 0, 1) := by decide +kernel
theorem dX8_errorPosition_1 : decode cX8_errorPosition 1 = .ok (.iconst 0, 1) := by decide +kernel
theorem dX8_errorPosition_2 : decode cX8_errorPosition 2 = .ok (.putfield 40, 3) := by decide +kernel
theorem dX8_errorPosition_5 : decode cX8_errorPosition 5 = .ok (.aload_n 0, 1) := by decide +kernel
theorem dX8_errorPosition_6 : decode cX8_errorPosition 6 = .ok (.getfield 25, 3) := by decide +kernel
theorem dX8_errorPosition_9 : decode cX8_errorPosition 9 = .ok (.ireturn, 1) := by decide +kernel
set_option maxRecDepth 20000 in
theorem ggX8_refusal_X8_fails : GoodIn wsX8_refusal wsX8_fails := goodIn_r _ [7, 8, 9, 10, 11, 12, 13, 14, 15, 16, 17, 18, 19, 20, 21, 22, 23, 24, 25, 26, 27, 28] (by decide +kernel) (by decide +kernel)
set_option maxRecDepth 20000 in
theorem gX8_refusal_X8_fails : GoodIn wsX8_refusal (wsV RX8 79 RX8 yX8_fails wsX8_fails) := goodIn_app (goodIn_of _ (by decide +kernel)) ggX8_refusal_X8_fails
theorem dX8_refusal_0 : decode cX8_refusal 0 = .ok (.aload_n 0, 1) := by decide +kernel
theorem dX8_refusal_1 : decode cX8_refusal 1 = .ok (.aload_n 0, 1) := by decide +kernel
theorem dX8_refusal_2 : decode cX8_refusal 2 = .ok (.getfield 47, 3) := by decide +kernel
theorem dX8_refusal_5 : decode cX8_refusal 5 = .ok (.ifCond .ne 7, 3) := by decide +kernel
theorem dX8_refusal_8 : decode cX8_refusal 8 = .ok (.iconst 1, 1) := by decide +kernel
theorem dX8_refusal_9 : decode cX8_refusal 9 = .ok (.goto 4, 3) := by decide +kernel
theorem dX8_refusal_12 : decode cX8_refusal 12 = .ok (.iconst 0, 1) := by decide +kernel
theorem dX8_refusal_13 : decode cX8_refusal 13 = .ok (.invokevirtual 79, 3) := by decide +kernel
theorem dX8_refusal_16 : decode cX8_refusal 16 = .ok (.ifCond .eq 7, 3) := by decide +kernel
theorem dX8_refusal_19 : decode cX8_refusal 19 = .ok (.iconst 0, 1) := by decide +kernel
theorem dX8_refusal_20 : decode cX8_refusal 20 = .ok (.goto 18, 3) := by decide +kernel
theorem dX8_refusal_23 : decode cX8_refusal 23 = .ok (.iload_n 1, 1) := by decide +kernel
theorem dX8_refusal_24 : decode cX8_refusal 24 = .ok (.ifCond .eq 10, 3) := by decide +kernel
theorem dX8_refusal_27 : decode cX8_refusal 27 = .ok (.aload_n 0, 1) := by decide +kernel
theorem dX8_refusal_28 : decode cX8_refusal 28 = .ok (.getfield 50, 3) := by decide +kernel
theorem dX8_refusal_31 : decode cX8_refusal 31 = .ok (.goto 7, 3) := by decide +kernel
theorem dX8_refusal_34 : decode cX8_refusal 34 = .ok (.aload_n 0, 1) := by decide +kernel
theorem dX8_refusal_35 : decode cX8_refusal 35 = .ok (.getfield 47, 3) := by decide +kernel
theorem dX8_refusal_38 : decode cX8_refusal 38 = .ok (.ireturn, 1) := by decide +kernel
set_option maxRecDepth 20000 in
theorem ggX8_summed_X8_of : GoodIn wsX8_summed wsX8_of := goodIn_ca (goodIn_r _ [5, 6, 23, 24, 25, 26, 27, 28, 29, 30, 31, 32, 33, 34, 35, 36, 37, 38, 39, 40, 41] (by decide +kernel) (by decide +kernel)) (goodIn_sub (fun _ h => List.mem_cons_of_mem _ (List.mem_append_right _ h)) (by decide +kernel))
set_option maxRecDepth 20000 in
theorem gX8_summed_X8_of : GoodIn wsX8_summed (wsV RX8 63 RX8 yX8_of wsX8_of) := goodIn_app (goodIn_of _ (by decide +kernel)) ggX8_summed_X8_of
set_option maxRecDepth 20000 in
theorem ggX8_summed_X8_blanks : GoodIn wsX8_summed wsX8_blanks := goodIn_ca (goodIn_r _ [10, 1, 2, 3, 4, 5, 6, 11, 12, 13, 14, 23, 24, 25, 26, 27, 28, 29, 30, 31, 32, 33, 34, 35, 36, 37, 38, 39, 40, 41] (by decide +kernel) (by decide +kernel)) (goodIn_sub (fun _ h => List.mem_cons_of_mem _ (List.mem_append_right _ h)) (by decide +kernel))
set_option maxRecDepth 20000 in
theorem gX8_summed_X8_blanks : GoodIn wsX8_summed (wsV RX8 150 RX8 yX8_blanks wsX8_blanks) := goodIn_app (goodIn_of _ (by decide +kernel)) ggX8_summed_X8_blanks
set_option maxRecDepth 20000 in
theorem ggX8_summed_X8_greys : GoodIn wsX8_summed wsX8_greys := goodIn_ca (goodIn_r _ [18, 1, 2, 3, 4, 5, 6, 19, 20, 21, 22, 11, 12, 13, 14, 23, 24, 25, 26, 27, 28, 29, 30, 31, 32, 33, 34, 35, 36, 37, 38, 39, 40, 41] (by decide +kernel) (by decide +kernel)) (goodIn_sub (fun _ h => List.mem_cons_of_mem _ (List.mem_append_right _ h)) (by decide +kernel))
set_option maxRecDepth 20000 in
theorem gX8_summed_X8_greys : GoodIn wsX8_summed (wsV RX8 162 RX8 yX8_greys wsX8_greys) := goodIn_app (goodIn_of _ (by decide +kernel)) ggX8_summed_X8_greys
theorem dX8_summed_0 : decode cX8_summed 0 = .ok (.iconst 0, 1) := by decide +kernel
theorem dX8_summed_1 : decode cX8_summed 1 = .ok (.istore_n 2, 1) := by decide +kernel
theorem dX8_summed_2 : decode cX8_summed 2 = .ok (.iconst 0, 1) := by decide +kernel
theorem dX8_summed_3 : decode cX8_summed 3 = .ok (.istore_n 3, 1) := by decide +kernel
theorem dX8_summed_4 : decode cX8_summed 4 = .ok (.iload_n 3, 1) := by decide +kernel
theorem dX8_summed_5 : decode cX8_summed 5 = .ok (.iconst 3, 1) := by decide +kernel
theorem dX8_summed_6 : decode cX8_summed 6 = .ok (.if_icmp .ge 57, 3) := by decide +kernel
theorem dX8_summed_9 : decode cX8_summed 9 = .ok (.iload_n 2, 1) := by decide +kernel
theorem dX8_summed_10 : decode cX8_summed 10 = .ok (.iload_n 1, 1) := by decide +kernel
theorem dX8_summed_11 : decode cX8_summed 11 = .ok (.ifCond .ne 12, 3) := by decide +kernel
theorem dX8_summed_14 : decode cX8_summed 14 = .ok (.aload_n 0, 1) := by decide +kernel
theorem dX8_summed_15 : decode cX8_summed 15 = .ok (.iload_n 3, 1) := by decide +kernel
theorem dX8_summed_16 : decode cX8_summed 16 = .ok (.iconst 0, 1) := by decide +kernel
theorem dX8_summed_17 : decode cX8_summed 17 = .ok (.invokevirtual 63, 3) := by decide +kernel
theorem dX8_summed_20 : decode cX8_summed 20 = .ok (.goto 35, 3) := by decide +kernel
theorem dX8_summed_23 : decode cX8_summed 23 = .ok (.iload_n 1, 1) := by decide +kernel
theorem dX8_summed_24 : decode cX8_summed 24 = .ok (.iconst 1, 1) := by decide +kernel
theorem dX8_summed_25 : decode cX8_summed 25 = .ok (.if_icmp .ne 11, 3) := by decide +kernel
theorem dX8_summed_28 : decode cX8_summed 28 = .ok (.aload_n 0, 1) := by decide +kernel
theorem dX8_summed_29 : decode cX8_summed 29 = .ok (.iload_n 3, 1) := by decide +kernel
theorem dX8_summed_30 : decode cX8_summed 30 = .ok (.invokevirtual 150, 3) := by decide +kernel
theorem dX8_summed_33 : decode cX8_summed 33 = .ok (.goto 22, 3) := by decide +kernel
theorem dX8_summed_36 : decode cX8_summed 36 = .ok (.iload_n 1, 1) := by decide +kernel
theorem dX8_summed_37 : decode cX8_summed 37 = .ok (.iconst 2, 1) := by decide +kernel
theorem dX8_summed_38 : decode cX8_summed 38 = .ok (.if_icmp .ne 11, 3) := by decide +kernel
theorem dX8_summed_41 : decode cX8_summed 41 = .ok (.aload_n 0, 1) := by decide +kernel
theorem dX8_summed_42 : decode cX8_summed 42 = .ok (.iload_n 3, 1) := by decide +kernel
theorem dX8_summed_43 : decode cX8_summed 43 = .ok (.invokevirtual 162, 3) := by decide +kernel
theorem dX8_summed_46 : decode cX8_summed 46 = .ok (.goto 9, 3) := by decide +kernel
theorem dX8_summed_49 : decode cX8_summed 49 = .ok (.aload_n 0, 1) := by decide +kernel
theorem dX8_summed_50 : decode cX8_summed 50 = .ok (.iload_n 3, 1) := by decide +kernel
theorem dX8_summed_51 : decode cX8_summed 51 = .ok (.iconst 4, 1) := by decide +kernel
theorem dX8_summed_52 : decode cX8_summed 52 = .ok (.invokevirtual 63, 3) := by decide +kernel
theorem dX8_summed_55 : decode cX8_summed 55 = .ok (.iadd, 1) := by decide +kernel
theorem dX8_summed_56 : decode cX8_summed 56 = .ok (.istore_n 2, 1) := by decide +kernel
theorem dX8_summed_57 : decode cX8_summed 57 = .ok (.iinc 3 1, 3) := by decide +kernel
theorem dX8_summed_60 : decode cX8_summed 60 = .ok (.goto (-56), 3) := by decide +kernel
theorem dX8_summed_63 : decode cX8_summed 63 = .ok (.iload_n 2, 1) := by decide +kernel
theorem dX8_summed_64 : decode cX8_summed 64 = .ok (.ireturn, 1) := by decide +kernel
set_option maxRecDepth 20000 in
theorem ggX8_account_X8_in : GoodIn wsX8_account wsX8_in := goodIn_r _ [7] (by decide +kernel) (by decide +kernel)
set_option maxRecDepth 20000 in
theorem gX8_account_X8_in : GoodIn wsX8_account (va_wsS RX8 71 yX8_in wsX8_in) := goodIn_app (goodIn_of _ (by decide +kernel)) ggX8_account_X8_in
set_option maxRecDepth 20000 in
theorem ggX8_account_X8_fails : GoodIn wsX8_account wsX8_fails := goodIn_r _ [11, 12, 13, 38, 39, 40, 41, 42, 43, 44, 45, 46, 47, 48, 49, 50, 51, 52, 53, 54, 55, 56] (by decide +kernel) (by decide +kernel)
set_option maxRecDepth 20000 in
theorem gX8_account_X8_fails : GoodIn wsX8_account (wsV RX8 79 RX8 yX8_fails wsX8_fails) := goodIn_app (goodIn_of _ (by decide +kernel)) ggX8_account_X8_fails
set_option maxRecDepth 20000 in
theorem ggX8_account_X8_summed : GoodIn wsX8_account wsX8_summed := goodIn_ca (goodIn_r _ [17, 18, 19, 20, 6, 21, 1, 22, 23, 24, 25, 26, 27, 28, 29, 30, 31, 32, 33, 34, 35, 36, 37, 38, 39, 40, 41, 42, 43, 44, 45, 46, 47, 48, 49, 50, 51, 52, 53, 54, 55, 56] (by decide +kernel) (by decide +kernel)) (goodIn_sub (fun _ h => List.mem_cons_of_mem _ (List.mem_append_right _ h)) (by decide +kernel))
set_option maxRecDepth 20000 in
theorem gX8_account_X8_summed : GoodIn wsX8_account (wsV RX8 232 RX8 yX8_summed wsX8_summed) := goodIn_app (goodIn_of _ (by decide +kernel)) ggX8_account_X8_summed
theorem dX8_account_0 : decode cX8_account 0 = .ok (.aload_n 0, 1) := by decide +kernel
theorem dX8_account_1 : decode cX8_account 1 = .ok (.iload_n 1, 1) := by decide +kernel
theorem dX8_account_2 : decode cX8_account 2 = .ok (.iconst 0, 1) := by decide +kernel
theorem dX8_account_3 : decode cX8_account 3 = .ok (.bipush 14, 2) := by decide +kernel
theorem dX8_account_5 : decode cX8_account 5 = .ok (.invokestatic 71, 3) := by decide +kernel
theorem dX8_account_8 : decode cX8_account 8 = .ok (.ifCond .eq 7, 3) := by decide +kernel
theorem dX8_account_11 : decode cX8_account 11 = .ok (.iconst 0, 1) := by decide +kernel
theorem dX8_account_12 : decode cX8_account 12 = .ok (.goto 4, 3) := by decide +kernel
theorem dX8_account_15 : decode cX8_account 15 = .ok (.iconst 1, 1) := by decide +kernel
theorem dX8_account_16 : decode cX8_account 16 = .ok (.invokevirtual 79, 3) := by decide +kernel
theorem dX8_account_19 : decode cX8_account 19 = .ok (.ifCond .eq 5, 3) := by decide +kernel
theorem dX8_account_22 : decode cX8_account 22 = .ok (.iconst 0, 1) := by decide +kernel
theorem dX8_account_23 : decode cX8_account 23 = .ok (.ireturn, 1) := by decide +kernel
theorem dX8_account_24 : decode cX8_account 24 = .ok (.iload_n 1, 1) := by decide +kernel
theorem dX8_account_25 : decode cX8_account 25 = .ok (.tableswitch 114 0 14 #[75, 75, 81, 89, 97, 114, 114, 114, 114, 114, 114, 114, 114, 104, 109], 75) := by decide +kernel
theorem dX8_account_100 : decode cX8_account 100 = .ok (.aload_n 0, 1) := by decide +kernel
theorem dX8_account_101 : decode cX8_account 101 = .ok (.iload_n 1, 1) := by decide +kernel
theorem dX8_account_102 : decode cX8_account 102 = .ok (.invokevirtual 232, 3) := by decide +kernel
theorem dX8_account_105 : decode cX8_account 105 = .ok (.ireturn, 1) := by decide +kernel
theorem dX8_account_106 : decode cX8_account 106 = .ok (.aload_n 0, 1) := by decide +kernel
theorem dX8_account_107 : decode cX8_account 107 = .ok (.getfield 7, 3) := by decide +kernel
theorem dX8_account_110 : decode cX8_account 110 = .ok (.bipush 10, 2) := by decide +kernel
theorem dX8_account_112 : decode cX8_account 112 = .ok (.iaload, 1) := by decide +kernel
theorem dX8_account_113 : decode cX8_account 113 = .ok (.ireturn, 1) := by decide +kernel
theorem dX8_account_114 : decode cX8_account 114 = .ok (.aload_n 0, 1) := by decide +kernel
theorem dX8_account_115 : decode cX8_account 115 = .ok (.getfield 7, 3) := by decide +kernel
theorem dX8_account_118 : decode cX8_account 118 = .ok (.bipush 9, 2) := by decide +kernel
theorem dX8_account_120 : decode cX8_account 120 = .ok (.iaload, 1) := by decide +kernel
theorem dX8_account_121 : decode cX8_account 121 = .ok (.ireturn, 1) := by decide +kernel
theorem dX8_account_122 : decode cX8_account 122 = .ok (.aload_n 0, 1) := by decide +kernel
theorem dX8_account_123 : decode cX8_account 123 = .ok (.getfield 7, 3) := by decide +kernel
theorem dX8_account_126 : decode cX8_account 126 = .ok (.iconst 0, 1) := by decide +kernel
theorem dX8_account_127 : decode cX8_account 127 = .ok (.iaload, 1) := by decide +kernel
theorem dX8_account_128 : decode cX8_account 128 = .ok (.ireturn, 1) := by decide +kernel
theorem dX8_account_129 : decode cX8_account 129 = .ok (.aload_n 0, 1) := by decide +kernel
theorem dX8_account_130 : decode cX8_account 130 = .ok (.getfield 177, 3) := by decide +kernel
theorem dX8_account_133 : decode cX8_account 133 = .ok (.ireturn, 1) := by decide +kernel
theorem dX8_account_134 : decode cX8_account 134 = .ok (.aload_n 0, 1) := by decide +kernel
theorem dX8_account_135 : decode cX8_account 135 = .ok (.getfield 56, 3) := by decide +kernel
theorem dX8_account_138 : decode cX8_account 138 = .ok (.ireturn, 1) := by decide +kernel
theorem dX8_account_139 : decode cX8_account 139 = .ok (.aload_n 0, 1) := by decide +kernel
theorem dX8_account_140 : decode cX8_account 140 = .ok (.getfield 7, 3) := by decide +kernel
theorem dX8_account_143 : decode cX8_account 143 = .ok (.iload_n 1, 1) := by decide +kernel
theorem dX8_account_144 : decode cX8_account 144 = .ok (.iconst 4, 1) := by decide +kernel
theorem dX8_account_145 : decode cX8_account 145 = .ok (.isub, 1) := by decide +kernel
theorem dX8_account_146 : decode cX8_account 146 = .ok (.iaload, 1) := by decide +kernel
theorem dX8_account_147 : decode cX8_account 147 = .ok (.ireturn, 1) := by decide +kernel
set_option maxRecDepth 20000 in
theorem ggX8_isWell_X8_summed : GoodIn wsX8_isWell wsX8_summed := goodIn_ca (goodIn_r _ [7, 8, 9, 10, 6, 11, 2, 12, 13, 14, 15, 16, 17, 18, 19, 20, 21, 22, 23, 24, 25, 26, 27, 28, 29, 30, 31, 32, 33, 34, 35, 36, 37, 38, 39, 40, 41, 42, 43, 44, 45, 46] (by decide +kernel) (by decide +kernel)) (goodIn_sub (fun _ h => List.mem_cons_of_mem _ (List.mem_append_right _ h)) (by decide +kernel))
set_option maxRecDepth 20000 in
theorem gX8_isWell_X8_summed : GoodIn wsX8_isWell (wsV RX8 232 RX8 yX8_summed wsX8_summed) := goodIn_app (goodIn_of _ (by decide +kernel)) ggX8_isWell_X8_summed
theorem dX8_isWell_0 : decode cX8_isWell 0 = .ok (.aload_n 0, 1) := by decide +kernel
theorem dX8_isWell_1 : decode cX8_isWell 1 = .ok (.iconst 0, 1) := by decide +kernel
theorem dX8_isWell_2 : decode cX8_isWell 2 = .ok (.putfield 40, 3) := by decide +kernel
theorem dX8_isWell_5 : decode cX8_isWell 5 = .ok (.aload_n 0, 1) := by decide +kernel
theorem dX8_isWell_6 : decode cX8_isWell 6 = .ok (.getfield 7, 3) := by decide +kernel
theorem dX8_isWell_9 : decode cX8_isWell 9 = .ok (.iconst 2, 1) := by decide +kernel
theorem dX8_isWell_10 : decode cX8_isWell 10 = .ok (.iaload, 1) := by decide +kernel
theorem dX8_isWell_11 : decode cX8_isWell 11 = .ok (.aload_n 0, 1) := by decide +kernel
theorem dX8_isWell_12 : decode cX8_isWell 12 = .ok (.iconst 0, 1) := by decide +kernel
theorem dX8_isWell_13 : decode cX8_isWell 13 = .ok (.invokevirtual 232, 3) := by decide +kernel
theorem dX8_isWell_16 : decode cX8_isWell 16 = .ok (.aload_n 0, 1) := by decide +kernel
theorem dX8_isWell_17 : decode cX8_isWell 17 = .ok (.iconst 1, 1) := by decide +kernel
theorem dX8_isWell_18 : decode cX8_isWell 18 = .ok (.invokevirtual 232, 3) := by decide +kernel
theorem dX8_isWell_21 : decode cX8_isWell 21 = .ok (.isub, 1) := by decide +kernel
theorem dX8_isWell_22 : decode cX8_isWell 22 = .ok (.aload_n 0, 1) := by decide +kernel
theorem dX8_isWell_23 : decode cX8_isWell 23 = .ok (.getfield 7, 3) := by decide +kernel
theorem dX8_isWell_26 : decode cX8_isWell 26 = .ok (.bipush 10, 2) := by decide +kernel
theorem dX8_isWell_28 : decode cX8_isWell 28 = .ok (.iaload, 1) := by decide +kernel
theorem dX8_isWell_29 : decode cX8_isWell 29 = .ok (.iadd, 1) := by decide +kernel
theorem dX8_isWell_30 : decode cX8_isWell 30 = .ok (.aload_n 0, 1) := by decide +kernel
theorem dX8_isWell_31 : decode cX8_isWell 31 = .ok (.getfield 7, 3) := by decide +kernel
theorem dX8_isWell_34 : decode cX8_isWell 34 = .ok (.iconst 3, 1) := by decide +kernel
theorem dX8_isWell_35 : decode cX8_isWell 35 = .ok (.iaload, 1) := by decide +kernel
theorem dX8_isWell_36 : decode cX8_isWell 36 = .ok (.iadd, 1) := by decide +kernel
theorem dX8_isWell_37 : decode cX8_isWell 37 = .ok (.aload_n 0, 1) := by decide +kernel
theorem dX8_isWell_38 : decode cX8_isWell 38 = .ok (.getfield 7, 3) := by decide +kernel
theorem dX8_isWell_41 : decode cX8_isWell 41 = .ok (.iconst 5, 1) := by decide +kernel
theorem dX8_isWell_42 : decode cX8_isWell 42 = .ok (.iaload, 1) := by decide +kernel
theorem dX8_isWell_43 : decode cX8_isWell 43 = .ok (.iadd, 1) := by decide +kernel
theorem dX8_isWell_44 : decode cX8_isWell 44 = .ok (.aload_n 0, 1) := by decide +kernel
theorem dX8_isWell_45 : decode cX8_isWell 45 = .ok (.getfield 7, 3) := by decide +kernel
theorem dX8_isWell_48 : decode cX8_isWell 48 = .ok (.bipush 6, 2) := by decide +kernel
theorem dX8_isWell_50 : decode cX8_isWell 50 = .ok (.iaload, 1) := by decide +kernel
theorem dX8_isWell_51 : decode cX8_isWell 51 = .ok (.iadd, 1) := by decide +kernel
theorem dX8_isWell_52 : decode cX8_isWell 52 = .ok (.if_icmp .ne 7, 3) := by decide +kernel
theorem dX8_isWell_55 : decode cX8_isWell 55 = .ok (.iconst 1, 1) := by decide +kernel
theorem dX8_isWell_56 : decode cX8_isWell 56 = .ok (.goto 4, 3) := by decide +kernel
theorem dX8_isWell_59 : decode cX8_isWell 59 = .ok (.iconst 0, 1) := by decide +kernel
theorem dX8_isWell_60 : decode cX8_isWell 60 = .ok (.ireturn, 1) := by decide +kernel
set_option maxRecDepth 20000 in
theorem ggX8_meanGrey_X8_summed : GoodIn wsX8_meanGrey wsX8_summed := goodIn_ca (goodIn_r _ [5, 6, 7, 8, 4, 9, 10, 11, 12, 13, 14, 15, 16, 17, 18, 19, 20, 21, 22, 23, 24, 25, 26, 33, 34, 35, 36, 37, 38, 39, 40, 41, 42, 43, 44, 45, 46, 47, 48, 49, 50, 51] (by decide +kernel) (by decide +kernel)) (goodIn_sub (fun _ h => List.mem_cons_of_mem _ (List.mem_append_right _ h)) (by decide +kernel))
set_option maxRecDepth 20000 in
theorem gX8_meanGrey_X8_summed : GoodIn wsX8_meanGrey (wsV RX8 232 RX8 yX8_summed wsX8_summed) := goodIn_app (goodIn_of _ (by decide +kernel)) ggX8_meanGrey_X8_summed
set_option maxRecDepth 20000 in
theorem ggX8_meanGrey_X8_fails : GoodIn wsX8_meanGrey wsX8_fails := goodIn_r _ [30, 31, 32, 33, 34, 35, 36, 37, 38, 39, 40, 41, 42, 43, 44, 45, 46, 47, 48, 49, 50, 51] (by decide +kernel) (by decide +kernel)
set_option maxRecDepth 20000 in
theorem gX8_meanGrey_X8_fails : GoodIn wsX8_meanGrey (wsV RX8 79 RX8 yX8_fails wsX8_fails) := goodIn_app (goodIn_of _ (by decide +kernel)) ggX8_meanGrey_X8_fails
theorem dX8_meanGrey_0 : decode cX8_meanGrey 0 = .ok (.aload_n 0, 1) := by decide +kernel
theorem dX8_meanGrey_1 : decode cX8_meanGrey 1 = .ok (.iconst 0, 1) := by decide +kernel
theorem dX8_meanGrey_2 : decode cX8_meanGrey 2 = .ok (.invokevirtual 232, 3) := by decide +kernel
theorem dX8_meanGrey_5 : decode cX8_meanGrey 5 = .ok (.aload_n 0, 1) := by decide +kernel
theorem dX8_meanGrey_6 : decode cX8_meanGrey 6 = .ok (.iconst 1, 1) := by decide +kernel
theorem dX8_meanGrey_7 : decode cX8_meanGrey 7 = .ok (.invokevirtual 232, 3) := by decide +kernel
theorem dX8_meanGrey_10 : decode cX8_meanGrey 10 = .ok (.isub, 1) := by decide +kernel
theorem dX8_meanGrey_11 : decode cX8_meanGrey 11 = .ok (.istore_n 1, 1) := by decide +kernel
theorem dX8_meanGrey_12 : decode cX8_meanGrey 12 = .ok (.aload_n 0, 1) := by decide +kernel
theorem dX8_meanGrey_13 : decode cX8_meanGrey 13 = .ok (.iload_n 1, 1) := by decide +kernel
theorem dX8_meanGrey_14 : decode cX8_meanGrey 14 = .ok (.ifCond .ne 7, 3) := by decide +kernel
theorem dX8_meanGrey_17 : decode cX8_meanGrey 17 = .ok (.iconst 1, 1) := by decide +kernel
theorem dX8_meanGrey_18 : decode cX8_meanGrey 18 = .ok (.goto 4, 3) := by decide +kernel
theorem dX8_meanGrey_21 : decode cX8_meanGrey 21 = .ok (.iconst 0, 1) := by decide +kernel
theorem dX8_meanGrey_22 : decode cX8_meanGrey 22 = .ok (.invokevirtual 79, 3) := by decide +kernel
theorem dX8_meanGrey_25 : decode cX8_meanGrey 25 = .ok (.ifCond .eq 7, 3) := by decide +kernel
theorem dX8_meanGrey_28 : decode cX8_meanGrey 28 = .ok (.dconst 0, 1) := by decide +kernel
theorem dX8_meanGrey_29 : decode cX8_meanGrey 29 = .ok (.goto 12, 3) := by decide +kernel
theorem dX8_meanGrey_32 : decode cX8_meanGrey 32 = .ok (.aload_n 0, 1) := by decide +kernel
theorem dX8_meanGrey_33 : decode cX8_meanGrey 33 = .ok (.iconst 2, 1) := by decide +kernel
theorem dX8_meanGrey_34 : decode cX8_meanGrey 34 = .ok (.invokevirtual 232, 3) := by decide +kernel
theorem dX8_meanGrey_37 : decode cX8_meanGrey 37 = .ok (.i2d, 1) := by decide +kernel
theorem dX8_meanGrey_38 : decode cX8_meanGrey 38 = .ok (.iload_n 1, 1) := by decide +kernel
theorem dX8_meanGrey_39 : decode cX8_meanGrey 39 = .ok (.i2d, 1) := by decide +kernel
theorem dX8_meanGrey_40 : decode cX8_meanGrey 40 = .ok (.ddiv, 1) := by decide +kernel
theorem dX8_meanGrey_41 : decode cX8_meanGrey 41 = .ok (.dreturn, 1) := by decide +kernel
set_option maxRecDepth 20000 in
theorem ggX8_stampShare_X8_summed : GoodIn wsX8_stampShare wsX8_summed := goodIn_ca (goodIn_r _ [6, 7, 8, 9, 5, 10, 1, 11, 12, 13, 14, 15, 16, 17, 18, 19, 20, 21, 22, 23, 24, 25, 26, 33, 34, 35, 36, 37, 38, 39, 40, 41, 42, 43, 44, 45, 46, 47, 48, 49, 50, 51] (by decide +kernel) (by decide +kernel)) (goodIn_sub (fun _ h => List.mem_cons_of_mem _ (List.mem_append_right _ h)) (by decide +kernel))
set_option maxRecDepth 20000 in
theorem gX8_stampShare_X8_summed : GoodIn wsX8_stampShare (wsV RX8 232 RX8 yX8_summed wsX8_summed) := goodIn_app (goodIn_of _ (by decide +kernel)) ggX8_stampShare_X8_summed
set_option maxRecDepth 20000 in
theorem ggX8_stampShare_X8_fails : GoodIn wsX8_stampShare wsX8_fails := goodIn_r _ [30, 31, 32, 33, 34, 35, 36, 37, 38, 39, 40, 41, 42, 43, 44, 45, 46, 47, 48, 49, 50, 51] (by decide +kernel) (by decide +kernel)
set_option maxRecDepth 20000 in
theorem gX8_stampShare_X8_fails : GoodIn wsX8_stampShare (wsV RX8 79 RX8 yX8_fails wsX8_fails) := goodIn_app (goodIn_of _ (by decide +kernel)) ggX8_stampShare_X8_fails
theorem dX8_stampShare_0 : decode cX8_stampShare 0 = .ok (.aload_n 0, 1) := by decide +kernel
theorem dX8_stampShare_1 : decode cX8_stampShare 1 = .ok (.aload_n 0, 1) := by decide +kernel
theorem dX8_stampShare_2 : decode cX8_stampShare 2 = .ok (.iconst 3, 1) := by decide +kernel
theorem dX8_stampShare_3 : decode cX8_stampShare 3 = .ok (.invokevirtual 232, 3) := by decide +kernel
theorem dX8_stampShare_6 : decode cX8_stampShare 6 = .ok (.ifCond .ne 7, 3) := by decide +kernel
theorem dX8_stampShare_9 : decode cX8_stampShare 9 = .ok (.iconst 1, 1) := by decide +kernel
theorem dX8_stampShare_10 : decode cX8_stampShare 10 = .ok (.goto 4, 3) := by decide +kernel
theorem dX8_stampShare_13 : decode cX8_stampShare 13 = .ok (.iconst 0, 1) := by decide +kernel
theorem dX8_stampShare_14 : decode cX8_stampShare 14 = .ok (.invokevirtual 79, 3) := by decide +kernel
theorem dX8_stampShare_17 : decode cX8_stampShare 17 = .ok (.ifCond .eq 7, 3) := by decide +kernel
theorem dX8_stampShare_20 : decode cX8_stampShare 20 = .ok (.fconst 0, 1) := by decide +kernel
theorem dX8_stampShare_21 : decode cX8_stampShare 21 = .ok (.goto 17, 3) := by decide +kernel
theorem dX8_stampShare_24 : decode cX8_stampShare 24 = .ok (.aload_n 0, 1) := by decide +kernel
theorem dX8_stampShare_25 : decode cX8_stampShare 25 = .ok (.getfield 7, 3) := by decide +kernel
theorem dX8_stampShare_28 : decode cX8_stampShare 28 = .ok (.iconst 3, 1) := by decide +kernel
theorem dX8_stampShare_29 : decode cX8_stampShare 29 = .ok (.iaload, 1) := by decide +kernel
theorem dX8_stampShare_30 : decode cX8_stampShare 30 = .ok (.i2f, 1) := by decide +kernel
theorem dX8_stampShare_31 : decode cX8_stampShare 31 = .ok (.aload_n 0, 1) := by decide +kernel
theorem dX8_stampShare_32 : decode cX8_stampShare 32 = .ok (.iconst 3, 1) := by decide +kernel
theorem dX8_stampShare_33 : decode cX8_stampShare 33 = .ok (.invokevirtual 232, 3) := by decide +kernel
theorem dX8_stampShare_36 : decode cX8_stampShare 36 = .ok (.i2f, 1) := by decide +kernel
theorem dX8_stampShare_37 : decode cX8_stampShare 37 = .ok (.fdiv, 1) := by decide +kernel
theorem dX8_stampShare_38 : decode cX8_stampShare 38 = .ok (.freturn, 1) := by decide +kernel
set_option maxRecDepth 20000 in
theorem ggX8_undo_X8_fails : GoodIn wsX8_undo wsX8_fails := goodIn_r _ [8, 9, 10, 14, 15, 16, 17, 18, 19, 20, 21, 22, 23, 24, 25, 26, 27, 28, 29, 30, 31, 32] (by decide +kernel) (by decide +kernel)
set_option maxRecDepth 20000 in
theorem gX8_undo_X8_fails : GoodIn wsX8_undo (wsV RX8 79 RX8 yX8_fails wsX8_fails) := goodIn_app (goodIn_of _ (by decide +kernel)) ggX8_undo_X8_fails
set_option maxRecDepth 20000 in
theorem ggX8_undo_X8_copies : GoodIn wsX8_undo wsX8_copies := goodIn_ca (goodIn_r _ [13] (by decide +kernel) (by decide +kernel)) (goodIn_sub (fun _ h => List.mem_cons_of_mem _ (List.mem_append_right _ h)) (by decide +kernel))
set_option maxRecDepth 20000 in
theorem gX8_undo_X8_copies : GoodIn wsX8_undo (va_wsS RX8 59 yX8_copies wsX8_copies) := goodIn_app (goodIn_of _ (by decide +kernel)) ggX8_undo_X8_copies
theorem dX8_undo_0 : decode cX8_undo 0 = .ok (.aload_n 0, 1) := by decide +kernel
theorem dX8_undo_1 : decode cX8_undo 1 = .ok (.aload_n 0, 1) := by decide +kernel
theorem dX8_undo_2 : decode cX8_undo 2 = .ok (.getfield 56, 3) := by decide +kernel
theorem dX8_undo_5 : decode cX8_undo 5 = .ok (.ifCond .ne 7, 3) := by decide +kernel
theorem dX8_undo_8 : decode cX8_undo 8 = .ok (.iconst 1, 1) := by decide +kernel
theorem dX8_undo_9 : decode cX8_undo 9 = .ok (.goto 4, 3) := by decide +kernel
theorem dX8_undo_12 : decode cX8_undo 12 = .ok (.iconst 0, 1) := by decide +kernel
theorem dX8_undo_13 : decode cX8_undo 13 = .ok (.invokevirtual 79, 3) := by decide +kernel
theorem dX8_undo_16 : decode cX8_undo 16 = .ok (.ifCond .eq 5, 3) := by decide +kernel
theorem dX8_undo_19 : decode cX8_undo 19 = .ok (.iconst 0, 1) := by decide +kernel
theorem dX8_undo_20 : decode cX8_undo 20 = .ok (.ireturn, 1) := by decide +kernel
theorem dX8_undo_21 : decode cX8_undo 21 = .ok (.aload_n 0, 1) := by decide +kernel
theorem dX8_undo_22 : decode cX8_undo 22 = .ok (.dup, 1) := by decide +kernel
theorem dX8_undo_23 : decode cX8_undo 23 = .ok (.getfield 56, 3) := by decide +kernel
theorem dX8_undo_26 : decode cX8_undo 26 = .ok (.iconst 1, 1) := by decide +kernel
theorem dX8_undo_27 : decode cX8_undo 27 = .ok (.isub, 1) := by decide +kernel
theorem dX8_undo_28 : decode cX8_undo 28 = .ok (.putfield 56, 3) := by decide +kernel
theorem dX8_undo_31 : decode cX8_undo 31 = .ok (.aload_n 0, 1) := by decide +kernel
theorem dX8_undo_32 : decode cX8_undo 32 = .ok (.getfield 13, 3) := by decide +kernel
theorem dX8_undo_35 : decode cX8_undo 35 = .ok (.bipush 125, 2) := by decide +kernel
theorem dX8_undo_37 : decode cX8_undo 37 = .ok (.aload_n 0, 1) := by decide +kernel
theorem dX8_undo_38 : decode cX8_undo 38 = .ok (.getfield 56, 3) := by decide +kernel
theorem dX8_undo_41 : decode cX8_undo 41 = .ok (.imul, 1) := by decide +kernel
theorem dX8_undo_42 : decode cX8_undo 42 = .ok (.aload_n 0, 1) := by decide +kernel
theorem dX8_undo_43 : decode cX8_undo 43 = .ok (.getfield 7, 3) := by decide +kernel
theorem dX8_undo_46 : decode cX8_undo 46 = .ok (.iconst 0, 1) := by decide +kernel
theorem dX8_undo_47 : decode cX8_undo 47 = .ok (.invokestatic 59, 3) := by decide +kernel
theorem dX8_undo_50 : decode cX8_undo 50 = .ok (.aload_n 0, 1) := by decide +kernel
theorem dX8_undo_51 : decode cX8_undo 51 = .ok (.getfield 56, 3) := by decide +kernel
theorem dX8_undo_54 : decode cX8_undo 54 = .ok (.ireturn, 1) := by decide +kernel
set_option maxRecDepth 20000 in
theorem ggX8_save_X8_copies : GoodIn wsX8_save wsX8_copies := goodIn_ca (goodIn_r _ [8] (by decide +kernel) (by decide +kernel)) (goodIn_sub (fun _ h => List.mem_cons_of_mem _ (List.mem_append_right _ h)) (by decide +kernel))
set_option maxRecDepth 20000 in
theorem gX8_save_X8_copies : GoodIn wsX8_save (va_wsS RX8 59 yX8_copies wsX8_copies) := goodIn_app (goodIn_of _ (by decide +kernel)) ggX8_save_X8_copies
set_option maxRecDepth 20000 in
theorem ggX8_save_X8_summed : GoodIn wsX8_save wsX8_summed := goodIn_ca (goodIn_r _ [12, 13, 14, 15, 7, 16, 3, 17, 18, 19, 20, 21, 22, 23, 24, 25, 26, 27, 28, 29, 30, 31, 32, 33, 34, 35, 36, 37, 38, 39, 40, 41, 42, 43, 44, 45, 46, 47, 48, 49, 50, 51] (by decide +kernel) (by decide +kernel)) (goodIn_sub (fun _ h => List.mem_cons_of_mem _ (List.mem_append_right _ h)) (by decide +kernel))
set_option maxRecDepth 20000 in
theorem gX8_save_X8_summed : GoodIn wsX8_save (wsV RX8 232 RX8 yX8_summed wsX8_summed) := goodIn_app (goodIn_of _ (by decide +kernel)) ggX8_save_X8_summed
theorem dX8_save_0 : decode cX8_save 0 = .ok (.aload_n 0, 1) := by decide +kernel
theorem dX8_save_1 : decode cX8_save 1 = .ok (.iconst 0, 1) := by decide +kernel
theorem dX8_save_2 : decode cX8_save 2 = .ok (.putfield 40, 3) := by decide +kernel
theorem dX8_save_5 : decode cX8_save 5 = .ok (.aload_n 0, 1) := by decide +kernel
theorem dX8_save_6 : decode cX8_save 6 = .ok (.iconst 1, 1) := by decide +kernel
theorem dX8_save_7 : decode cX8_save 7 = .ok (.putfield 235, 3) := by decide +kernel
theorem dX8_save_10 : decode cX8_save 10 = .ok (.aload_n 0, 1) := by decide +kernel
theorem dX8_save_11 : decode cX8_save 11 = .ok (.getfield 7, 3) := by decide +kernel
theorem dX8_save_14 : decode cX8_save 14 = .ok (.iconst 0, 1) := by decide +kernel
theorem dX8_save_15 : decode cX8_save 15 = .ok (.aload_n 0, 1) := by decide +kernel
theorem dX8_save_16 : decode cX8_save 16 = .ok (.getfield 16, 3) := by decide +kernel
theorem dX8_save_19 : decode cX8_save 19 = .ok (.iconst 0, 1) := by decide +kernel
theorem dX8_save_20 : decode cX8_save 20 = .ok (.invokestatic 59, 3) := by decide +kernel
theorem dX8_save_23 : decode cX8_save 23 = .ok (.aload_n 0, 1) := by decide +kernel
theorem dX8_save_24 : decode cX8_save 24 = .ok (.iconst 0, 1) := by decide +kernel
theorem dX8_save_25 : decode cX8_save 25 = .ok (.invokevirtual 232, 3) := by decide +kernel
theorem dX8_save_28 : decode cX8_save 28 = .ok (.ireturn, 1) := by decide +kernel
set_option maxRecDepth 20000 in
theorem ggX8_restore_X8_fails : GoodIn wsX8_restore wsX8_fails := goodIn_r _ [9, 10, 11, 39, 40, 41, 42, 43, 44, 45, 46, 47, 48, 49, 50, 51, 52, 53, 54, 55, 56, 57] (by decide +kernel) (by decide +kernel)
set_option maxRecDepth 20000 in
theorem gX8_restore_X8_fails : GoodIn wsX8_restore (wsV RX8 79 RX8 yX8_fails wsX8_fails) := goodIn_app (goodIn_of _ (by decide +kernel)) ggX8_restore_X8_fails
set_option maxRecDepth 20000 in
theorem ggX8_restore_X8_copies : GoodIn wsX8_restore wsX8_copies := goodIn_ca (goodIn_r _ [14] (by decide +kernel) (by decide +kernel)) (goodIn_sub (fun _ h => List.mem_cons_of_mem _ (List.mem_append_right _ h)) (by decide +kernel))
set_option maxRecDepth 20000 in
theorem gX8_restore_X8_copies : GoodIn wsX8_restore (va_wsS RX8 59 yX8_copies wsX8_copies) := goodIn_app (goodIn_of _ (by decide +kernel)) ggX8_restore_X8_copies
set_option maxRecDepth 20000 in
theorem ggX8_restore_X8_summed : GoodIn wsX8_restore wsX8_summed := goodIn_ca (goodIn_r _ [18, 19, 20, 21, 8, 22, 3, 23, 24, 25, 26, 27, 28, 29, 30, 31, 32, 33, 34, 35, 36, 37, 38, 39, 40, 41, 42, 43, 44, 45, 46, 47, 48, 49, 50, 51, 52, 53, 54, 55, 56, 57] (by decide +kernel) (by decide +kernel)) (goodIn_sub (fun _ h => List.mem_cons_of_mem _ (List.mem_append_right _ h)) (by decide +kernel))
set_option maxRecDepth 20000 in
theorem gX8_restore_X8_summed : GoodIn wsX8_restore (wsV RX8 232 RX8 yX8_summed wsX8_summed) := goodIn_app (goodIn_of _ (by decide +kernel)) ggX8_restore_X8_summed
theorem dX8_restore_0 : decode cX8_restore 0 = .ok (.aload_n 0, 1) := by decide +kernel
theorem dX8_restore_1 : decode cX8_restore 1 = .ok (.aload_n 0, 1) := by decide +kernel
theorem dX8_restore_2 : decode cX8_restore 2 = .ok (.getfield 235, 3) := by decide +kernel
theorem dX8_restore_5 : decode cX8_restore 5 = .ok (.ifCond .eq 7, 3) := by decide +kernel
theorem dX8_restore_8 : decode cX8_restore 8 = .ok (.iconst 0, 1) := by decide +kernel
theorem dX8_restore_9 : decode cX8_restore 9 = .ok (.goto 4, 3) := by decide +kernel
theorem dX8_restore_12 : decode cX8_restore 12 = .ok (.iconst 1, 1) := by decide +kernel
theorem dX8_restore_13 : decode cX8_restore 13 = .ok (.invokevirtual 79, 3) := by decide +kernel
theorem dX8_restore_16 : decode cX8_restore 16 = .ok (.ifCond .eq 5, 3) := by decide +kernel
theorem dX8_restore_19 : decode cX8_restore 19 = .ok (.iconst 0, 1) := by decide +kernel
theorem dX8_restore_20 : decode cX8_restore 20 = .ok (.ireturn, 1) := by decide +kernel
theorem dX8_restore_21 : decode cX8_restore 21 = .ok (.aload_n 0, 1) := by decide +kernel
theorem dX8_restore_22 : decode cX8_restore 22 = .ok (.getfield 16, 3) := by decide +kernel
theorem dX8_restore_25 : decode cX8_restore 25 = .ok (.iconst 0, 1) := by decide +kernel
theorem dX8_restore_26 : decode cX8_restore 26 = .ok (.aload_n 0, 1) := by decide +kernel
theorem dX8_restore_27 : decode cX8_restore 27 = .ok (.getfield 7, 3) := by decide +kernel
theorem dX8_restore_30 : decode cX8_restore 30 = .ok (.iconst 0, 1) := by decide +kernel
theorem dX8_restore_31 : decode cX8_restore 31 = .ok (.invokestatic 59, 3) := by decide +kernel
theorem dX8_restore_34 : decode cX8_restore 34 = .ok (.aload_n 0, 1) := by decide +kernel
theorem dX8_restore_35 : decode cX8_restore 35 = .ok (.iconst 0, 1) := by decide +kernel
theorem dX8_restore_36 : decode cX8_restore 36 = .ok (.putfield 56, 3) := by decide +kernel
theorem dX8_restore_39 : decode cX8_restore 39 = .ok (.aload_n 0, 1) := by decide +kernel
theorem dX8_restore_40 : decode cX8_restore 40 = .ok (.iconst 0, 1) := by decide +kernel
theorem dX8_restore_41 : decode cX8_restore 41 = .ok (.invokevirtual 232, 3) := by decide +kernel
theorem dX8_restore_44 : decode cX8_restore 44 = .ok (.ireturn, 1) := by decide +kernel
theorem dJx00060_init_a7421_0 : decode cJx00060_init_a7421 0 = .ok (.aload_n 0, 1) := by decide +kernel
theorem dJx00060_init_a7421_1 : decode cJx00060_init_a7421 1 = .ok (.aload_n 1, 1) := by decide +kernel
theorem dJx00060_init_a7421_2 : decode cJx00060_init_a7421 2 = .ok (.invokespecial 7, 3) := by decide +kernel
theorem dJx00060_init_a7421_5 : decode cJx00060_init_a7421 5 = .ok (.return_, 1) := by decide +kernel
theorem dJ9_max_7cf53_0 : decode cJ9_max_7cf53 0 = .ok (.iload_n 0, 1) := by decide +kernel
theorem dJ9_max_7cf53_1 : decode cJ9_max_7cf53 1 = .ok (.iload_n 1, 1) := by decide +kernel
theorem dJ9_max_7cf53_2 : decode cJ9_max_7cf53 2 = .ok (.if_icmp .lt 7, 3) := by decide +kernel
theorem dJ9_max_7cf53_5 : decode cJ9_max_7cf53 5 = .ok (.iload_n 0, 1) := by decide +kernel
theorem dJ9_max_7cf53_6 : decode cJ9_max_7cf53 6 = .ok (.goto 4, 3) := by decide +kernel
theorem dJ9_max_7cf53_9 : decode cJ9_max_7cf53 9 = .ok (.iload_n 1, 1) := by decide +kernel
theorem dJ9_max_7cf53_10 : decode cJ9_max_7cf53 10 = .ok (.ireturn, 1) := by decide +kernel
theorem dJ9_min_7cf53_0 : decode cJ9_min_7cf53 0 = .ok (.iload_n 0, 1) := by decide +kernel
theorem dJ9_min_7cf53_1 : decode cJ9_min_7cf53 1 = .ok (.iload_n 1, 1) := by decide +kernel
theorem dJ9_min_7cf53_2 : decode cJ9_min_7cf53 2 = .ok (.if_icmp .gt 7, 3) := by decide +kernel
theorem dJ9_min_7cf53_5 : decode cJ9_min_7cf53 5 = .ok (.iload_n 0, 1) := by decide +kernel
theorem dJ9_min_7cf53_6 : decode cJ9_min_7cf53 6 = .ok (.goto 4, 3) := by decide +kernel
theorem dJ9_min_7cf53_9 : decode cJ9_min_7cf53 9 = .ok (.iload_n 1, 1) := by decide +kernel
theorem dJ9_min_7cf53_10 : decode cJ9_min_7cf53 10 = .ok (.ireturn, 1) := by decide +kernel
