theorem dX5_mondays_8 : decode cX5_mondays 8 = .ok (.arraylength, 1) := by decide +kernel
theorem dX5_mondays_9 : decode cX5_mondays 9 = .ok (.istore_n 3, 1) := by decide +kernel
theorem dX5_mondays_10 : decode cX5_mondays 10 = .ok (.iconst 0, 1) := by decide +kernel
theorem dX5_mondays_11 : decode cX5_mondays 11 = .ok (.istore 4, 2) := by decide +kernel
theorem dX5_mondays_13 : decode cX5_mondays 13 = .ok (.iload 4, 2) := by decide +kernel
theorem dX5_mondays_15 : decode cX5_mondays 15 = .ok (.iload_n 3, 1) := by decide +kernel
theorem dX5_mondays_16 : decode cX5_mondays 16 = .ok (.if_icmp .ge 32, 3) := by decide +kernel
theorem dX5_mondays_19 : decode cX5_mondays 19 = .ok (.aload_n 2, 1) := by decide +kernel
theorem dX5_mondays_20 : decode cX5_mondays 20 = .ok (.iload 4, 2) := by decide +kernel
theorem dX5_mondays_22 : decode cX5_mondays 22 = .ok (.aaload, 1) := by decide +kernel
theorem dX5_mondays_23 : decode cX5_mondays 23 = .ok (.astore 5, 2) := by decide +kernel
theorem dX5_mondays_25 : decode cX5_mondays 25 = .ok (.iload_n 1, 1) := by decide +kernel
theorem dX5_mondays_26 : decode cX5_mondays 26 = .ok (.aload 5, 2) := by decide +kernel
theorem dX5_mondays_28 : decode cX5_mondays 28 = .ok (.getfield 98, 3) := by decide +kernel
theorem dX5_mondays_31 : decode cX5_mondays 31 = .ok (.getfield 101, 3) := by decide +kernel
theorem dX5_mondays_34 : decode cX5_mondays 34 = .ok (.aload 5, 2) := by decide +kernel
theorem dX5_mondays_36 : decode cX5_mondays 36 = .ok (.invokevirtual 233, 3) := by decide +kernel
theorem dX5_mondays_39 : decode cX5_mondays 39 = .ok (.isub, 1) := by decide +kernel
theorem dX5_mondays_40 : decode cX5_mondays 40 = .ok (.iadd, 1) := by decide +kernel
theorem dX5_mondays_41 : decode cX5_mondays 41 = .ok (.istore_n 1, 1) := by decide +kernel
theorem dX5_mondays_42 : decode cX5_mondays 42 = .ok (.iinc 4 1, 3) := by decide +kernel
theorem dX5_mondays_45 : decode cX5_mondays 45 = .ok (.goto (-32), 3) := by decide +kernel
theorem dX5_mondays_48 : decode cX5_mondays 48 = .ok (.iload_n 1, 1) := by decide +kernel
theorem dX5_mondays_49 : decode cX5_mondays 49 = .ok (.ireturn, 1) := by decide +kernel
set_option maxRecDepth 20000 in
theorem ggX5_greys_X0_greys : GoodIn wsX5_greys wsX0_greys := goodIn_ca (goodIn_r _ [6, 7, 8, 9, 10, 11, 12, 13, 14, 15, 16, 17, 18, 19, 20, 21, 22, 23, 35, 36, 37, 38, 39, 40, 41, 42] (by decide +kernel) (by decide +kernel)) (goodIn_sub (fun _ h => List.mem_cons_of_mem _ (List.mem_append_right _ h)) (by decide +kernel))
set_option maxRecDepth 20000 in
theorem gX5_greys_X0_greys : GoodIn wsX5_greys (wsV RX5 222 RX0 yX0_greys wsX0_greys) := goodIn_app (goodIn_of _ (by decide +kernel)) ggX5_greys_X0_greys
theorem dX5_greys_0 : decode cX5_greys 0 = .ok (.iconst 0, 1) := by decide +kernel
theorem dX5_greys_1 : decode cX5_greys 1 = .ok (.istore_n 1, 1) := by decide +kernel
theorem dX5_greys_2 : decode cX5_greys 2 = .ok (.aload_n 0, 1) := by decide +kernel
theorem dX5_greys_3 : decode cX5_greys 3 = .ok (.getfield 12, 3) := by decide +kernel
theorem dX5_greys_6 : decode cX5_greys 6 = .ok (.astore_n 2, 1) := by decide +kernel
theorem dX5_greys_7 : decode cX5_greys 7 = .ok (.aload_n 2, 1) := by decide +kernel
theorem dX5_greys_8 : decode cX5_greys 8 = .ok (.arraylength, 1) := by decide +kernel
theorem dX5_greys_9 : decode cX5_greys 9 = .ok (.istore_n 3, 1) := by decide +kernel
theorem dX5_greys_10 : decode cX5_greys 10 = .ok (.iconst 0, 1) := by decide +kernel
theorem dX5_greys_11 : decode cX5_greys 11 = .ok (.istore 4, 2) := by decide +kernel
theorem dX5_greys_13 : decode cX5_greys 13 = .ok (.iload 4, 2) := by decide +kernel
theorem dX5_greys_15 : decode cX5_greys 15 = .ok (.iload_n 3, 1) := by decide +kernel
theorem dX5_greys_16 : decode cX5_greys 16 = .ok (.if_icmp .ge 23, 3) := by decide +kernel
theorem dX5_greys_19 : decode cX5_greys 19 = .ok (.aload_n 2, 1) := by decide +kernel
theorem dX5_greys_20 : decode cX5_greys 20 = .ok (.iload 4, 2) := by decide +kernel
theorem dX5_greys_22 : decode cX5_greys 22 = .ok (.aaload, 1) := by decide +kernel
theorem dX5_greys_23 : decode cX5_greys 23 = .ok (.astore 5, 2) := by decide +kernel
theorem dX5_greys_25 : decode cX5_greys 25 = .ok (.iload_n 1, 1) := by decide +kernel
theorem dX5_greys_26 : decode cX5_greys 26 = .ok (.aload 5, 2) := by decide +kernel
theorem dX5_greys_28 : decode cX5_greys 28 = .ok (.invokevirtual 222, 3) := by decide +kernel
theorem dX5_greys_31 : decode cX5_greys 31 = .ok (.iadd, 1) := by decide +kernel
theorem dX5_greys_32 : decode cX5_greys 32 = .ok (.istore_n 1, 1) := by decide +kernel
theorem dX5_greys_33 : decode cX5_greys 33 = .ok (.iinc 4 1, 3) := by decide +kernel
theorem dX5_greys_36 : decode cX5_greys 36 = .ok (.goto (-23), 3) := by decide +kernel
theorem dX5_greys_39 : decode cX5_greys 39 = .ok (.iload_n 1, 1) := by decide +kernel
theorem dX5_greys_40 : decode cX5_greys 40 = .ok (.ireturn, 1) := by decide +kernel
theorem dX5_inspected_0 : decode cX5_inspected 0 = .ok (.iconst 0, 1) := by decide +kernel
theorem dX5_inspected_1 : decode cX5_inspected 1 = .ok (.istore_n 1, 1) := by decide +kernel
theorem dX5_inspected_2 : decode cX5_inspected 2 = .ok (.aload_n 0, 1) := by decide +kernel
theorem dX5_inspected_3 : decode cX5_inspected 3 = .ok (.getfield 12, 3) := by decide +kernel
theorem dX5_inspected_6 : decode cX5_inspected 6 = .ok (.astore_n 2, 1) := by decide +kernel
theorem dX5_inspected_7 : decode cX5_inspected 7 = .ok (.aload_n 2, 1) := by decide +kernel
theorem dX5_inspected_8 : decode cX5_inspected 8 = .ok (.arraylength, 1) := by decide +kernel
theorem dX5_inspected_9 : decode cX5_inspected 9 = .ok (.istore_n 3, 1) := by decide +kernel
theorem dX5_inspected_10 : decode cX5_inspected 10 = .ok (.iconst 0, 1) := by decide +kernel
theorem dX5_inspected_11 : decode cX5_inspected 11 = .ok (.istore 4, 2) := by decide +kernel
theorem dX5_inspected_13 : decode cX5_inspected 13 = .ok (.iload 4, 2) := by decide +kernel
theorem dX5_inspected_15 : decode cX5_inspected 15 = .ok (.iload_n 3, 1) := by decide +kernel
theorem dX5_inspected_16 : decode cX5_inspected 16 = .ok (.if_icmp .ge 23, 3) := by decide +kernel
theorem dX5_inspected_19 : decode cX5_inspected 19 = .ok (.aload_n 2, 1) := by decide +kernel
theorem dX5_inspected_20 : decode cX5_inspected 20 = .ok (.iload 4, 2) := by decide +kernel
theorem dX5_inspected_22 : decode cX5_inspected 22 = .ok (.aaload, 1) := by decide +kernel
theorem dX5_inspected_23 : decode cX5_inspected 23 = .ok (.astore 5, 2) := by decide +kernel
theorem dX5_inspected_25 : decode cX5_inspected 25 = .ok (.iload_n 1, 1) := by decide +kernel
theorem dX5_inspected_26 : decode cX5_inspected 26 = .ok (.aload 5, 2) := by decide +kernel
theorem dX5_inspected_28 : decode cX5_inspected 28 = .ok (.getfield 170, 3) := by decide +kernel
theorem dX5_inspected_31 : decode cX5_inspected 31 = .ok (.iadd, 1) := by decide +kernel
theorem dX5_inspected_32 : decode cX5_inspected 32 = .ok (.istore_n 1, 1) := by decide +kernel
theorem dX5_inspected_33 : decode cX5_inspected 33 = .ok (.iinc 4 1, 3) := by decide +kernel
theorem dX5_inspected_36 : decode cX5_inspected 36 = .ok (.goto (-23), 3) := by decide +kernel
theorem dX5_inspected_39 : decode cX5_inspected 39 = .ok (.iload_n 1, 1) := by decide +kernel
theorem dX5_inspected_40 : decode cX5_inspected 40 = .ok (.ireturn, 1) := by decide +kernel
theorem dX5_stamped_0 : decode cX5_stamped 0 = .ok (.iconst 0, 1) := by decide +kernel
theorem dX5_stamped_1 : decode cX5_stamped 1 = .ok (.istore_n 1, 1) := by decide +kernel
theorem dX5_stamped_2 : decode cX5_stamped 2 = .ok (.aload_n 0, 1) := by decide +kernel
theorem dX5_stamped_3 : decode cX5_stamped 3 = .ok (.getfield 12, 3) := by decide +kernel
theorem dX5_stamped_6 : decode cX5_stamped 6 = .ok (.astore_n 2, 1) := by decide +kernel
theorem dX5_stamped_7 : decode cX5_stamped 7 = .ok (.aload_n 2, 1) := by decide +kernel
theorem dX5_stamped_8 : decode cX5_stamped 8 = .ok (.arraylength, 1) := by decide +kernel
theorem dX5_stamped_9 : decode cX5_stamped 9 = .ok (.istore_n 3, 1) := by decide +kernel
theorem dX5_stamped_10 : decode cX5_stamped 10 = .ok (.iconst 0, 1) := by decide +kernel
theorem dX5_stamped_11 : decode cX5_stamped 11 = .ok (.istore 4, 2) := by decide +kernel
theorem dX5_stamped_13 : decode cX5_stamped 13 = .ok (.iload 4, 2) := by decide +kernel
theorem dX5_stamped_15 : decode cX5_stamped 15 = .ok (.iload_n 3, 1) := by decide +kernel
theorem dX5_stamped_16 : decode cX5_stamped 16 = .ok (.if_icmp .ge 23, 3) := by decide +kernel
theorem dX5_stamped_19 : decode cX5_stamped 19 = .ok (.aload_n 2, 1) := by decide +kernel
theorem dX5_stamped_20 : decode cX5_stamped 20 = .ok (.iload 4, 2) := by decide +kernel
theorem dX5_stamped_22 : decode cX5_stamped 22 = .ok (.aaload, 1) := by decide +kernel
theorem dX5_stamped_23 : decode cX5_stamped 23 = .ok (.astore 5, 2) := by decide +kernel
theorem dX5_stamped_25 : decode cX5_stamped 25 = .ok (.iload_n 1, 1) := by decide +kernel
theorem dX5_stamped_26 : decode cX5_stamped 26 = .ok (.aload 5, 2) := by decide +kernel
theorem dX5_stamped_28 : decode cX5_stamped 28 = .ok (.getfield 173, 3) := by decide +kernel
theorem dX5_stamped_31 : decode cX5_stamped 31 = .ok (.iadd, 1) := by decide +kernel
theorem dX5_stamped_32 : decode cX5_stamped 32 = .ok (.istore_n 1, 1) := by decide +kernel
theorem dX5_stamped_33 : decode cX5_stamped 33 = .ok (.iinc 4 1, 3) := by decide +kernel
theorem dX5_stamped_36 : decode cX5_stamped 36 = .ok (.goto (-23), 3) := by decide +kernel
theorem dX5_stamped_39 : decode cX5_stamped 39 = .ok (.iload_n 1, 1) := by decide +kernel
theorem dX5_stamped_40 : decode cX5_stamped 40 = .ok (.ireturn, 1) := by decide +kernel
theorem dX6_init_0 : decode cX6_init 0 = .ok (.aload_n 0, 1) := by decide +kernel
theorem dX6_init_1 : decode cX6_init 1 = .ok (.invokespecial 3, 3) := by decide +kernel
theorem dX6_init_4 : decode cX6_init 4 = .ok (.aload_n 0, 1) := by decide +kernel
theorem dX6_init_5 : decode cX6_init 5 = .ok (.bipush 32, 2) := by decide +kernel
theorem dX6_init_7 : decode cX6_init 7 = .ok (.newarray .int, 2) := by decide +kernel
theorem dX6_init_9 : decode cX6_init 9 = .ok (.putfield 9, 3) := by decide +kernel
theorem dX6_init_12 : decode cX6_init 12 = .ok (.aload_n 0, 1) := by decide +kernel
theorem dX6_init_13 : decode cX6_init 13 = .ok (.iconst 0, 1) := by decide +kernel
theorem dX6_init_14 : decode cX6_init 14 = .ok (.putfield 15, 3) := by decide +kernel
theorem dX6_init_17 : decode cX6_init 17 = .ok (.return_, 1) := by decide +kernel
theorem dX6_copyFrom_0 : decode cX6_copyFrom 0 = .ok (.aload_n 0, 1) := by decide +kernel
theorem dX6_copyFrom_1 : decode cX6_copyFrom 1 = .ok (.aload_n 1, 1) := by decide +kernel
theorem dX6_copyFrom_2 : decode cX6_copyFrom 2 = .ok (.getfield 15, 3) := by decide +kernel
theorem dX6_copyFrom_5 : decode cX6_copyFrom 5 = .ok (.putfield 15, 3) := by decide +kernel
theorem dX6_copyFrom_8 : decode cX6_copyFrom 8 = .ok (.aload_n 1, 1) := by decide +kernel
theorem dX6_copyFrom_9 : decode cX6_copyFrom 9 = .ok (.getfield 9, 3) := by decide +kernel
theorem dX6_copyFrom_12 : decode cX6_copyFrom 12 = .ok (.iconst 0, 1) := by decide +kernel
theorem dX6_copyFrom_13 : decode cX6_copyFrom 13 = .ok (.aload_n 0, 1) := by decide +kernel
theorem dX6_copyFrom_14 : decode cX6_copyFrom 14 = .ok (.getfield 9, 3) := by decide +kernel
theorem dX6_copyFrom_17 : decode cX6_copyFrom 17 = .ok (.iconst 0, 1) := by decide +kernel
theorem dX6_copyFrom_18 : decode cX6_copyFrom 18 = .ok (.aload_n 0, 1) := by decide +kernel
theorem dX6_copyFrom_19 : decode cX6_copyFrom 19 = .ok (.getfield 15, 3) := by decide +kernel
theorem dX6_copyFrom_22 : decode cX6_copyFrom 22 = .ok (.iconst 4, 1) := by decide +kernel
theorem dX6_copyFrom_23 : decode cX6_copyFrom 23 = .ok (.imul, 1) := by decide +kernel
theorem dX6_copyFrom_24 : decode cX6_copyFrom 24 = .ok (.invokestatic 19, 3) := by decide +kernel
theorem dX6_copyFrom_27 : decode cX6_copyFrom 27 = .ok (.return_, 1) := by decide +kernel
theorem dX6_has_0 : decode cX6_has 0 = .ok (.iload_n 1, 1) := by decide +kernel
theorem dX6_has_1 : decode cX6_has 1 = .ok (.ifCond .lt 15, 3) := by decide +kernel
theorem dX6_has_4 : decode cX6_has 4 = .ok (.iload_n 1, 1) := by decide +kernel
theorem dX6_has_5 : decode cX6_has 5 = .ok (.aload_n 0, 1) := by decide +kernel
theorem dX6_has_6 : decode cX6_has 6 = .ok (.getfield 15, 3) := by decide +kernel
theorem dX6_has_9 : decode cX6_has 9 = .ok (.if_icmp .ge 7, 3) := by decide +kernel
theorem dX6_has_12 : decode cX6_has 12 = .ok (.iconst 1, 1) := by decide +kernel
theorem dX6_has_13 : decode cX6_has 13 = .ok (.goto 4, 3) := by decide +kernel
theorem dX6_has_16 : decode cX6_has 16 = .ok (.iconst 0, 1) := by decide +kernel
theorem dX6_has_17 : decode cX6_has 17 = .ok (.ireturn, 1) := by decide +kernel
theorem dX6_number_0 : decode cX6_number 0 = .ok (.iload_n 1, 1) := by decide +kernel
theorem dX6_number_1 : decode cX6_number 1 = .ok (.ifCond .lt 24, 3) := by decide +kernel
theorem dX6_number_4 : decode cX6_number 4 = .ok (.iload_n 1, 1) := by decide +kernel
theorem dX6_number_5 : decode cX6_number 5 = .ok (.aload_n 0, 1) := by decide +kernel
theorem dX6_number_6 : decode cX6_number 6 = .ok (.getfield 15, 3) := by decide +kernel
theorem dX6_number_9 : decode cX6_number 9 = .ok (.if_icmp .ge 16, 3) := by decide +kernel
theorem dX6_number_12 : decode cX6_number 12 = .ok (.iload_n 2, 1) := by decide +kernel
theorem dX6_number_13 : decode cX6_number 13 = .ok (.ifCond .lt 12, 3) := by decide +kernel
theorem dX6_number_16 : decode cX6_number 16 = .ok (.iload_n 2, 1) := by decide +kernel
theorem dX6_number_17 : decode cX6_number 17 = .ok (.iconst 4, 1) := by decide +kernel
theorem dX6_number_18 : decode cX6_number 18 = .ok (.if_icmp .ge 7, 3) := by decide +kernel
theorem dX6_number_21 : decode cX6_number 21 = .ok (.iconst 1, 1) := by decide +kernel
theorem dX6_number_22 : decode cX6_number 22 = .ok (.goto 4, 3) := by decide +kernel
theorem dX6_number_25 : decode cX6_number 25 = .ok (.iconst 0, 1) := by decide +kernel
theorem dX6_number_26 : decode cX6_number 26 = .ok (.istore_n 3, 1) := by decide +kernel
theorem dX6_number_27 : decode cX6_number 27 = .ok (.iload_n 3, 1) := by decide +kernel
theorem dX6_number_28 : decode cX6_number 28 = .ok (.ifCond .eq 16, 3) := by decide +kernel
theorem dX6_number_31 : decode cX6_number 31 = .ok (.aload_n 0, 1) := by decide +kernel
theorem dX6_number_32 : decode cX6_number 32 = .ok (.getfield 9, 3) := by decide +kernel
theorem dX6_number_35 : decode cX6_number 35 = .ok (.iload_n 1, 1) := by decide +kernel
theorem dX6_number_36 : decode cX6_number 36 = .ok (.iconst 4, 1) := by decide +kernel
theorem dX6_number_37 : decode cX6_number 37 = .ok (.imul, 1) := by decide +kernel
theorem dX6_number_38 : decode cX6_number 38 = .ok (.iload_n 2, 1) := by decide +kernel
theorem dX6_number_39 : decode cX6_number 39 = .ok (.iadd, 1) := by decide +kernel
theorem dX6_number_40 : decode cX6_number 40 = .ok (.iaload, 1) := by decide +kernel
theorem dX6_number_41 : decode cX6_number 41 = .ok (.goto 4, 3) := by decide +kernel
theorem dX6_number_44 : decode cX6_number 44 = .ok (.iconst (-1), 1) := by decide +kernel
theorem dX6_number_45 : decode cX6_number 45 = .ok (.ireturn, 1) := by decide +kernel
set_option maxRecDepth 20000 in
theorem ggX6_grey_X6_number : GoodIn wsX6_grey wsX6_number := goodIn_ca (goodIn_r _ [5, 6, 7, 8, 9] (by decide +kernel) (by decide +kernel)) (goodIn_sub (fun _ h => List.mem_cons_of_mem _ (List.mem_append_right _ h)) (by decide +kernel))
set_option maxRecDepth 20000 in
theorem gX6_grey_X6_number : GoodIn wsX6_grey (wsV RX6 25 RX6 yX6_number wsX6_number) := goodIn_app (goodIn_of _ (by decide +kernel)) ggX6_grey_X6_number
theorem dX6_grey_0 : decode cX6_grey 0 = .ok (.aload_n 0, 1) := by decide +kernel
theorem dX6_grey_1 : decode cX6_grey 1 = .ok (.iload_n 1, 1) := by decide +kernel
theorem dX6_grey_2 : decode cX6_grey 2 = .ok (.iconst 0, 1) := by decide +kernel
theorem dX6_grey_3 : decode cX6_grey 3 = .ok (.invokevirtual 25, 3) := by decide +kernel
theorem dX6_grey_6 : decode cX6_grey 6 = .ok (.ireturn, 1) := by decide +kernel
set_option maxRecDepth 20000 in
theorem ggX6_alarm_X6_number : GoodIn wsX6_alarm wsX6_number := goodIn_ca (goodIn_r _ [5, 6, 7, 8, 9] (by decide +kernel) (by decide +kernel)) (goodIn_sub (fun _ h => List.mem_cons_of_mem _ (List.mem_append_right _ h)) (by decide +kernel))
set_option maxRecDepth 20000 in
theorem gX6_alarm_X6_number : GoodIn wsX6_alarm (wsV RX6 25 RX6 yX6_number wsX6_number) := goodIn_app (goodIn_of _ (by decide +kernel)) ggX6_alarm_X6_number
theorem dX6_alarm_0 : decode cX6_alarm 0 = .ok (.aload_n 0, 1) := by decide +kernel
theorem dX6_alarm_1 : decode cX6_alarm 1 = .ok (.iload_n 1, 1) := by decide +kernel
theorem dX6_alarm_2 : decode cX6_alarm 2 = .ok (.iconst 1, 1) := by decide +kernel
theorem dX6_alarm_3 : decode cX6_alarm 3 = .ok (.invokevirtual 25, 3) := by decide +kernel
theorem dX6_alarm_6 : decode cX6_alarm 6 = .ok (.ireturn, 1) := by decide +kernel
set_option maxRecDepth 20000 in
theorem ggX6_isBlank_X6_number : GoodIn wsX6_isBlank wsX6_number := goodIn_ca (goodIn_r _ [5, 6, 7, 8, 9] (by decide +kernel) (by decide +kernel)) (goodIn_sub (fun _ h => List.mem_cons_of_mem _ (List.mem_append_right _ h)) (by decide +kernel))
set_option maxRecDepth 20000 in
theorem gX6_isBlank_X6_number : GoodIn wsX6_isBlank (wsV RX6 25 RX6 yX6_number wsX6_number) := goodIn_app (goodIn_of _ (by decide +kernel)) ggX6_isBlank_X6_number
theorem dX6_isBlank_0 : decode cX6_isBlank 0 = .ok (.aload_n 0, 1) := by decide +kernel
theorem dX6_isBlank_1 : decode cX6_isBlank 1 = .ok (.iload_n 1, 1) := by decide +kernel
theorem dX6_isBlank_2 : decode cX6_isBlank 2 = .ok (.iconst 0, 1) := by decide +kernel
theorem dX6_isBlank_3 : decode cX6_isBlank 3 = .ok (.invokevirtual 25, 3) := by decide +kernel
theorem dX6_isBlank_6 : decode cX6_isBlank 6 = .ok (.iconst (-1), 1) := by decide +kernel
theorem dX6_isBlank_7 : decode cX6_isBlank 7 = .ok (.if_icmp .ne 7, 3) := by decide +kernel
theorem dX6_isBlank_10 : decode cX6_isBlank 10 = .ok (.iconst 1, 1) := by decide +kernel
theorem dX6_isBlank_11 : decode cX6_isBlank 11 = .ok (.goto 4, 3) := by decide +kernel
theorem dX6_isBlank_14 : decode cX6_isBlank 14 = .ok (.iconst 0, 1) := by decide +kernel
theorem dX6_isBlank_15 : decode cX6_isBlank 15 = .ok (.ireturn, 1) := by decide +kernel
theorem dX6_add_0 : decode cX6_add 0 = .ok (.aload_n 0, 1) := by decide +kernel
theorem dX6_add_1 : decode cX6_add 1 = .ok (.getfield 15, 3) := by decide +kernel
theorem dX6_add_4 : decode cX6_add 4 = .ok (.bipush 8, 2) := by decide +kernel
theorem dX6_add_6 : decode cX6_add 6 = .ok (.if_icmp .ge 62, 3) := by decide +kernel
theorem dX6_add_9 : decode cX6_add 9 = .ok (.aload_n 0, 1) := by decide +kernel
theorem dX6_add_10 : decode cX6_add 10 = .ok (.getfield 15, 3) := by decide +kernel
theorem dX6_add_13 : decode cX6_add 13 = .ok (.iconst 4, 1) := by decide +kernel
theorem dX6_add_14 : decode cX6_add 14 = .ok (.imul, 1) := by decide +kernel
theorem dX6_add_15 : decode cX6_add 15 = .ok (.istore 5, 2) := by decide +kernel
theorem dX6_add_17 : decode cX6_add 17 = .ok (.aload_n 0, 1) := by decide +kernel
theorem dX6_add_18 : decode cX6_add 18 = .ok (.getfield 9, 3) := by decide +kernel
theorem dX6_add_21 : decode cX6_add 21 = .ok (.iload 5, 2) := by decide +kernel
theorem dX6_add_23 : decode cX6_add 23 = .ok (.iconst 0, 1) := by decide +kernel
theorem dX6_add_24 : decode cX6_add 24 = .ok (.iadd, 1) := by decide +kernel
theorem dX6_add_25 : decode cX6_add 25 = .ok (.iload_n 1, 1) := by decide +kernel
theorem dX6_add_26 : decode cX6_add 26 = .ok (.iastore, 1) := by decide +kernel
theorem dX6_add_27 : decode cX6_add 27 = .ok (.aload_n 0, 1) := by decide +kernel
theorem dX6_add_28 : decode cX6_add 28 = .ok (.getfield 9, 3) := by decide +kernel
theorem dX6_add_31 : decode cX6_add 31 = .ok (.iload 5, 2) := by decide +kernel
theorem dX6_add_33 : decode cX6_add 33 = .ok (.iconst 1, 1) := by decide +kernel
theorem dX6_add_34 : decode cX6_add 34 = .ok (.iadd, 1) := by decide +kernel
theorem dX6_add_35 : decode cX6_add 35 = .ok (.iload_n 2, 1) := by decide +kernel
theorem dX6_add_36 : decode cX6_add 36 = .ok (.iastore, 1) := by decide +kernel
theorem dX6_add_37 : decode cX6_add 37 = .ok (.aload_n 0, 1) := by decide +kernel
theorem dX6_add_38 : decode cX6_add 38 = .ok (.getfield 9, 3) := by decide +kernel
theorem dX6_add_41 : decode cX6_add 41 = .ok (.iload 5, 2) := by decide +kernel
theorem dX6_add_43 : decode cX6_add 43 = .ok (.iconst 2, 1) := by decide +kernel
theorem dX6_add_44 : decode cX6_add 44 = .ok (.iadd, 1) := by decide +kernel
theorem dX6_add_45 : decode cX6_add 45 = .ok (.iload_n 3, 1) := by decide +kernel
theorem dX6_add_46 : decode cX6_add 46 = .ok (.iastore, 1) := by decide +kernel
theorem dX6_add_47 : decode cX6_add 47 = .ok (.aload_n 0, 1) := by decide +kernel
theorem dX6_add_48 : decode cX6_add 48 = .ok (.getfield 9, 3) := by decide +kernel
theorem dX6_add_51 : decode cX6_add 51 = .ok (.iload 5, 2) := by decide +kernel
theorem dX6_add_53 : decode cX6_add 53 = .ok (.iconst 3, 1) := by decide +kernel
theorem dX6_add_54 : decode cX6_add 54 = .ok (.iadd, 1) := by decide +kernel
theorem dX6_add_55 : decode cX6_add 55 = .ok (.iload 4, 2) := by decide +kernel
theorem dX6_add_57 : decode cX6_add 57 = .ok (.iastore, 1) := by decide +kernel
theorem dX6_add_58 : decode cX6_add 58 = .ok (.aload_n 0, 1) := by decide +kernel
theorem dX6_add_59 : decode cX6_add 59 = .ok (.dup, 1) := by decide +kernel
theorem dX6_add_60 : decode cX6_add 60 = .ok (.getfield 15, 3) := by decide +kernel
theorem dX6_add_63 : decode cX6_add 63 = .ok (.iconst 1, 1) := by decide +kernel
theorem dX6_add_64 : decode cX6_add 64 = .ok (.iadd, 1) := by decide +kernel
theorem dX6_add_65 : decode cX6_add 65 = .ok (.putfield 15, 3) := by decide +kernel
theorem dX6_add_68 : decode cX6_add 68 = .ok (.return_, 1) := by decide +kernel
theorem dX6_cut_0 : decode cX6_cut 0 = .ok (.iload_n 1, 1) := by decide +kernel
theorem dX6_cut_1 : decode cX6_cut 1 = .ok (.ifCond .lt 56, 3) := by decide +kernel
theorem dX6_cut_4 : decode cX6_cut 4 = .ok (.iload_n 2, 1) := by decide +kernel
theorem dX6_cut_5 : decode cX6_cut 5 = .ok (.ifCond .lt 52, 3) := by decide +kernel
theorem dX6_cut_8 : decode cX6_cut 8 = .ok (.iload_n 2, 1) := by decide +kernel
theorem dX6_cut_9 : decode cX6_cut 9 = .ok (.aload_n 0, 1) := by decide +kernel
theorem dX6_cut_10 : decode cX6_cut 10 = .ok (.getfield 15, 3) := by decide +kernel
theorem dX6_cut_13 : decode cX6_cut 13 = .ok (.iload_n 1, 1) := by decide +kernel
theorem dX6_cut_14 : decode cX6_cut 14 = .ok (.isub, 1) := by decide +kernel
theorem dX6_cut_15 : decode cX6_cut 15 = .ok (.if_icmp .gt 42, 3) := by decide +kernel
theorem dX6_cut_18 : decode cX6_cut 18 = .ok (.iload_n 1, 1) := by decide +kernel
theorem dX6_cut_19 : decode cX6_cut 19 = .ok (.iload_n 2, 1) := by decide +kernel
theorem dX6_cut_20 : decode cX6_cut 20 = .ok (.iadd, 1) := by decide +kernel
theorem dX6_cut_21 : decode cX6_cut 21 = .ok (.istore_n 3, 1) := by decide +kernel
theorem dX6_cut_22 : decode cX6_cut 22 = .ok (.aload_n 0, 1) := by decide +kernel
theorem dX6_cut_23 : decode cX6_cut 23 = .ok (.getfield 9, 3) := by decide +kernel
theorem dX6_cut_26 : decode cX6_cut 26 = .ok (.iload_n 3, 1) := by decide +kernel
theorem dX6_cut_27 : decode cX6_cut 27 = .ok (.iconst 4, 1) := by decide +kernel
theorem dX6_cut_28 : decode cX6_cut 28 = .ok (.imul, 1) := by decide +kernel
theorem dX6_cut_29 : decode cX6_cut 29 = .ok (.aload_n 0, 1) := by decide +kernel
theorem dX6_cut_30 : decode cX6_cut 30 = .ok (.getfield 9, 3) := by decide +kernel
theorem dX6_cut_33 : decode cX6_cut 33 = .ok (.iload_n 1, 1) := by decide +kernel
theorem dX6_cut_34 : decode cX6_cut 34 = .ok (.iconst 4, 1) := by decide +kernel
theorem dX6_cut_35 : decode cX6_cut 35 = .ok (.imul, 1) := by decide +kernel
theorem dX6_cut_36 : decode cX6_cut 36 = .ok (.aload_n 0, 1) := by decide +kernel
theorem dX6_cut_37 : decode cX6_cut 37 = .ok (.getfield 15, 3) := by decide +kernel
theorem dX6_cut_40 : decode cX6_cut 40 = .ok (.iload_n 3, 1) := by decide +kernel
theorem dX6_cut_41 : decode cX6_cut 41 = .ok (.isub, 1) := by decide +kernel
theorem dX6_cut_42 : decode cX6_cut 42 = .ok (.iconst 4, 1) := by decide +kernel
theorem dX6_cut_43 : decode cX6_cut 43 = .ok (.imul, 1) := by decide +kernel
theorem dX6_cut_44 : decode cX6_cut 44 = .ok (.invokestatic 19, 3) := by decide +kernel
theorem dX6_cut_47 : decode cX6_cut 47 = .ok (.aload_n 0, 1) := by decide +kernel
theorem dX6_cut_48 : decode cX6_cut 48 = .ok (.dup, 1) := by decide +kernel
theorem dX6_cut_49 : decode cX6_cut 49 = .ok (.getfield 15, 3) := by decide +kernel
theorem dX6_cut_52 : decode cX6_cut 52 = .ok (.iload_n 2, 1) := by decide +kernel
theorem dX6_cut_53 : decode cX6_cut 53 = .ok (.isub, 1) := by decide +kernel
theorem dX6_cut_54 : decode cX6_cut 54 = .ok (.putfield 15, 3) := by decide +kernel
theorem dX6_cut_57 : decode cX6_cut 57 = .ok (.return_, 1) := by decide +kernel
set_option maxRecDepth 20000 in
theorem ggX6_moveFrontTo_X6_number : GoodIn wsX6_moveFrontTo wsX6_number := goodIn_ca (goodIn_r _ [6, 1, 7, 20, 21] (by decide +kernel) (by decide +kernel)) (goodIn_sub (fun _ h => List.mem_cons_of_mem _ (List.mem_append_right _ h)) (by decide +kernel))
set_option maxRecDepth 20000 in
theorem gX6_moveFrontTo_X6_number : GoodIn wsX6_moveFrontTo (wsV RX6 25 RX6 yX6_number wsX6_number) := goodIn_app (goodIn_of _ (by decide +kernel)) ggX6_moveFrontTo_X6_number
set_option maxRecDepth 20000 in
theorem ggX6_moveFrontTo_X6_add : GoodIn wsX6_moveFrontTo wsX6_add := goodIn_ca (goodIn_r _ [11, 1, 7, 20, 21] (by decide +kernel) (by decide +kernel)) (goodIn_sub (fun _ h => List.mem_cons_of_mem _ (List.mem_append_right _ h)) (by decide +kernel))
set_option maxRecDepth 20000 in
theorem gX6_moveFrontTo_X6_add : GoodIn wsX6_moveFrontTo (wsV RX6 29 RX6 yX6_add wsX6_add) := goodIn_app (goodIn_of _ (by decide +kernel)) ggX6_moveFrontTo_X6_add
set_option maxRecDepth 20000 in
theorem ggX6_moveFrontTo_X6_cut : GoodIn wsX6_moveFrontTo wsX6_cut := goodIn_r _ [15, 1, 7, 16, 17, 18, 19, 20, 21] (by decide +kernel) (by decide +kernel)
set_option maxRecDepth 20000 in
theorem gX6_moveFrontTo_X6_cut : GoodIn wsX6_moveFrontTo (wsV RX6 33 RX6 yX6_cut wsX6_cut) := goodIn_app (goodIn_of _ (by decide +kernel)) ggX6_moveFrontTo_X6_cut
theorem dX6_moveFrontTo_0 : decode cX6_moveFrontTo 0 = .ok (.aload_n 0, 1) := by decide +kernel
theorem dX6_moveFrontTo_1 : decode cX6_moveFrontTo 1 = .ok (.getfield 15, 3) := by decide +kernel
theorem dX6_moveFrontTo_4 : decode cX6_moveFrontTo 4 = .ok (.ifCond .le 37, 3) := by decide +kernel
theorem dX6_moveFrontTo_7 : decode cX6_moveFrontTo 7 = .ok (.aload_n 1, 1) := by decide +kernel
theorem dX6_moveFrontTo_8 : decode cX6_moveFrontTo 8 = .ok (.aload_n 0, 1) := by decide +kernel
theorem dX6_moveFrontTo_9 : decode cX6_moveFrontTo 9 = .ok (.iconst 0, 1) := by decide +kernel
theorem dX6_moveFrontTo_10 : decode cX6_moveFrontTo 10 = .ok (.iconst 0, 1) := by decide +kernel
theorem dX6_moveFrontTo_11 : decode cX6_moveFrontTo 11 = .ok (.invokevirtual 25, 3) := by decide +kernel
theorem dX6_moveFrontTo_14 : decode cX6_moveFrontTo 14 = .ok (.aload_n 0, 1) := by decide +kernel
theorem dX6_moveFrontTo_15 : decode cX6_moveFrontTo 15 = .ok (.iconst 0, 1) := by decide +kernel
theorem dX6_moveFrontTo_16 : decode cX6_moveFrontTo 16 = .ok (.iconst 1, 1) := by decide +kernel
theorem dX6_moveFrontTo_17 : decode cX6_moveFrontTo 17 = .ok (.invokevirtual 25, 3) := by decide +kernel
theorem dX6_moveFrontTo_20 : decode cX6_moveFrontTo 20 = .ok (.aload_n 0, 1) := by decide +kernel
theorem dX6_moveFrontTo_21 : decode cX6_moveFrontTo 21 = .ok (.iconst 0, 1) := by decide +kernel
theorem dX6_moveFrontTo_22 : decode cX6_moveFrontTo 22 = .ok (.iconst 2, 1) := by decide +kernel
theorem dX6_moveFrontTo_23 : decode cX6_moveFrontTo 23 = .ok (.invokevirtual 25, 3) := by decide +kernel
theorem dX6_moveFrontTo_26 : decode cX6_moveFrontTo 26 = .ok (.aload_n 0, 1) := by decide +kernel
theorem dX6_moveFrontTo_27 : decode cX6_moveFrontTo 27 = .ok (.iconst 0, 1) := by decide +kernel
theorem dX6_moveFrontTo_28 : decode cX6_moveFrontTo 28 = .ok (.iconst 3, 1) := by decide +kernel
theorem dX6_moveFrontTo_29 : decode cX6_moveFrontTo 29 = .ok (.invokevirtual 25, 3) := by decide +kernel
theorem dX6_moveFrontTo_32 : decode cX6_moveFrontTo 32 = .ok (.invokevirtual 29, 3) := by decide +kernel
theorem dX6_moveFrontTo_35 : decode cX6_moveFrontTo 35 = .ok (.aload_n 0, 1) := by decide +kernel
theorem dX6_moveFrontTo_36 : decode cX6_moveFrontTo 36 = .ok (.iconst 0, 1) := by decide +kernel
theorem dX6_moveFrontTo_37 : decode cX6_moveFrontTo 37 = .ok (.iconst 1, 1) := by decide +kernel
theorem dX6_moveFrontTo_38 : decode cX6_moveFrontTo 38 = .ok (.invokevirtual 33, 3) := by decide +kernel
theorem dX6_moveFrontTo_41 : decode cX6_moveFrontTo 41 = .ok (.return_, 1) := by decide +kernel
set_option maxRecDepth 20000 in
theorem ggX7_init_X5_init : GoodIn wsX7_init wsX5_init := goodIn_r _ [28, 29, 2, 3, 30, 31, 32, 33, 34, 35, 36, 37, 38, 39, 40, 41, 42, 43, 44, 45, 46, 47, 48, 49, 50, 51, 52, 53, 54, 55, 56, 57, 58, 59, 60, 61, 62, 63, 64, 65, 66, 67, 68, 69, 70, 119, 120, 121, 122, 123, 124, 90, 91, 92, 93, 94, 95, 96, 97, 98, 99, 100, 125, 126, 127, 128] (by decide +kernel) (by decide +kernel)
set_option maxRecDepth 20000 in
theorem gX7_init_X5_init_n9 : GoodIn wsX7_init (wsX5_init) := ggX7_init_X5_init
set_option maxRecDepth 20000 in
theorem ggX7_init_X2_init : GoodIn wsX7_init wsX2_init := goodIn_r _ [73, 74, 2, 3, 75, 76, 77, 78, 5, 6, 27, 28, 29, 30, 31, 32, 33, 34, 35, 36, 37, 38, 39, 40, 41, 42, 43, 44, 45, 46, 47, 48, 49, 50, 51, 52, 53, 54, 55, 56, 57, 58, 59, 60, 61, 62, 63, 64, 65, 66, 67, 68, 69, 70, 112, 113, 114, 90, 91, 92, 93, 94, 95, 96, 97, 98, 99, 100, 119, 120, 121, 122, 123, 124, 125, 126, 127, 128] (by decide +kernel) (by decide +kernel)
set_option maxRecDepth 20000 in
theorem gX7_init_X2_init : GoodIn wsX7_init (wsX2_init) := ggX7_init_X2_init
set_option maxRecDepth 20000 in
theorem ggX7_init_X3_init : GoodIn wsX7_init wsX3_init := goodIn_r _ [80, 81, 2, 3, 82, 83, 84, 115, 116] (by decide +kernel) (by decide +kernel)
set_option maxRecDepth 20000 in
theorem gX7_init_X3_init_n34 : GoodIn wsX7_init (wsX3_init) := ggX7_init_X3_init
set_option maxRecDepth 20000 in
theorem ggX7_init_X4_init : GoodIn wsX7_init wsX4_init := goodIn_r _ [86, 87, 2, 3, 82, 88, 89, 117, 118] (by decide +kernel) (by decide +kernel)
set_option maxRecDepth 20000 in
theorem gX7_init_X4_init_n41 : GoodIn wsX7_init (wsX4_init) := ggX7_init_X4_init
theorem dX7_init_0 : decode cX7_init 0 = .ok (.aload_n 0, 1) := by decide +kernel
theorem dX7_init_1 : decode cX7_init 1 = .ok (.invokespecial 1, 3) := by decide +kernel
theorem dX7_init_4 : decode cX7_init 4 = .ok (.aload_n 0, 1) := by decide +kernel
theorem dX7_init_5 : decode cX7_init 5 = .ok (.new 7, 3) := by decide +kernel
theorem dX7_init_8 : decode cX7_init 8 = .ok (.dup, 1) := by decide +kernel
theorem dX7_init_9 : decode cX7_init 9 = .ok (.invokespecial 9, 3) := by decide +kernel
theorem dX7_init_12 : decode cX7_init 12 = .ok (.putfield 10, 3) := by decide +kernel
theorem dX7_init_15 : decode cX7_init 15 = .ok (.aload_n 0, 1) := by decide +kernel
theorem dX7_init_16 : decode cX7_init 16 = .ok (.new 7, 3) := by decide +kernel
theorem dX7_init_19 : decode cX7_init 19 = .ok (.dup, 1) := by decide +kernel
theorem dX7_init_20 : decode cX7_init 20 = .ok (.invokespecial 9, 3) := by decide +kernel
theorem dX7_init_23 : decode cX7_init 23 = .ok (.putfield 16, 3) := by decide +kernel
theorem dX7_init_26 : decode cX7_init 26 = .ok (.aload_n 0, 1) := by decide +kernel
theorem dX7_init_27 : decode cX7_init 27 = .ok (.new 7, 3) := by decide +kernel
theorem dX7_init_30 : decode cX7_init 30 = .ok (.dup, 1) := by decide +kernel
theorem dX7_init_31 : decode cX7_init 31 = .ok (.invokespecial 9, 3) := by decide +kernel
theorem dX7_init_34 : decode cX7_init 34 = .ok (.putfield 19, 3) := by decide +kernel
theorem dX7_init_37 : decode cX7_init 37 = .ok (.aload_n 0, 1) := by decide +kernel
theorem dX7_init_38 : decode cX7_init 38 = .ok (.new 7, 3) := by decide +kernel
theorem dX7_init_41 : decode cX7_init 41 = .ok (.dup, 1) := by decide +kernel
theorem dX7_init_42 : decode cX7_init 42 = .ok (.invokespecial 9, 3) := by decide +kernel
theorem dX7_init_45 : decode cX7_init 45 = .ok (.putfield 22, 3) := by decide +kernel
theorem dX7_init_48 : decode cX7_init 48 = .ok (.aload_n 0, 1) := by decide +kernel
theorem dX7_init_49 : decode cX7_init 49 = .ok (.new 25, 3) := by decide +kernel
theorem dX7_init_52 : decode cX7_init 52 = .ok (.dup, 1) := by decide +kernel
theorem dX7_init_53 : decode cX7_init 53 = .ok (.invokespecial 27, 3) := by decide +kernel
theorem dX7_init_56 : decode cX7_init 56 = .ok (.putfield 28, 3) := by decide +kernel
theorem dX7_init_59 : decode cX7_init 59 = .ok (.aload_n 0, 1) := by decide +kernel
theorem dX7_init_60 : decode cX7_init 60 = .ok (.new 32, 3) := by decide +kernel
theorem dX7_init_63 : decode cX7_init 63 = .ok (.dup, 1) := by decide +kernel
theorem dX7_init_64 : decode cX7_init 64 = .ok (.invokespecial 34, 3) := by decide +kernel
theorem dX7_init_67 : decode cX7_init 67 = .ok (.putfield 35, 3) := by decide +kernel
theorem dX7_init_70 : decode cX7_init 70 = .ok (.aload_n 0, 1) := by decide +kernel
theorem dX7_init_71 : decode cX7_init 71 = .ok (.new 39, 3) := by decide +kernel
theorem dX7_init_74 : decode cX7_init 74 = .ok (.dup, 1) := by decide +kernel
theorem dX7_init_75 : decode cX7_init 75 = .ok (.invokespecial 41, 3) := by decide +kernel
theorem dX7_init_78 : decode cX7_init 78 = .ok (.putfield 42, 3) := by decide +kernel
theorem dX7_init_81 : decode cX7_init 81 = .ok (.aload_n 0, 1) := by decide +kernel
theorem dX7_init_82 : decode cX7_init 82 = .ok (.iconst 0, 1) := by decide +kernel
theorem dX7_init_83 : decode cX7_init 83 = .ok (.putfield 46, 3) := by decide +kernel
theorem dX7_init_86 : decode cX7_init 86 = .ok (.aload_n 0, 1) := by decide +kernel
theorem dX7_init_87 : decode cX7_init 87 = .ok (.iconst (-1), 1) := by decide +kernel
theorem dX7_init_88 : decode cX7_init 88 = .ok (.putfield 50, 3) := by decide +kernel
theorem dX7_init_91 : decode cX7_init 91 = .ok (.aload_n 0, 1) := by decide +kernel
theorem dX7_init_92 : decode cX7_init 92 = .ok (.iconst 0, 1) := by decide +kernel
theorem dX7_init_93 : decode cX7_init 93 = .ok (.putfield 54, 3) := by decide +kernel
theorem dX7_init_96 : decode cX7_init 96 = .ok (.aload_n 0, 1) := by decide +kernel
theorem dX7_init_97 : decode cX7_init 97 = .ok (.iconst 0, 1) := by decide +kernel
theorem dX7_init_98 : decode cX7_init 98 = .ok (.putfield 57, 3) := by decide +kernel
theorem dX7_init_101 : decode cX7_init 101 = .ok (.return_, 1) := by decide +kernel
set_option maxRecDepth 20000 in
theorem ggX7_make_X7_change : GoodIn wsX7_make wsX7_change := goodIn_ca (goodIn_ca (goodIn_ca (goodIn_ca (goodIn_r _ [5, 6, 7, 8, 9, 10, 11, 12, 13, 14, 15, 16, 17, 18, 19, 20, 21, 22, 23, 24, 25, 26, 27, 28, 29, 30, 31, 32, 33, 34, 35, 36, 37, 38, 39, 40, 41, 42, 43, 44, 45, 46, 47, 48, 49, 50, 51, 52, 53, 54, 55, 4, 56, 57, 58, 59, 60, 61, 62, 63, 64, 65, 66, 67, 68, 69, 70, 71, 72, 73, 74, 75, 76, 77, 78, 79, 80, 81, 82, 83, 84, 85, 86, 87, 88, 89, 90, 91, 92, 93, 94, 95, 96, 97, 98, 99, 100, 101, 102, 103, 104, 105, 106, 107, 108, 109, 110, 111, 112, 113, 114, 115, 116, 117, 118, 119, 120, 121, 122, 123, 124, 125, 126, 127, 128, 129, 130, 131, 132, 133, 134, 135, 136, 137, 138, 139, 140, 141, 142, 143, 144, 145, 146, 147, 148, 149, 150, 151, 152, 153, 154, 155, 156, 157, 158, 159, 160, 161, 162, 163, 164, 165, 166, 167, 168, 169, 170, 171, 172, 173, 174, 175, 176, 177, 178, 179, 180, 181, 182, 183, 184, 185, 186, 187, 188, 189, 190, 191, 192, 193, 194, 195, 196, 197, 198, 199, 200, 201, 202, 203, 204, 205, 206, 207, 208, 209, 210, 211, 212, 213, 214, 215, 216, 217, 218, 219, 220, 221, 222, 223, 224, 225, 226, 227, 228, 229, 230, 231, 232, 233, 234, 235, 236, 237, 238, 239, 240, 241, 242, 243, 244, 245, 246, 247, 248, 249, 250, 251, 252, 253, 254, 255, 256, 257, 258, 259, 260, 261, 262, 263, 264, 265, 266, 267, 268, 269, 270, 271, 272, 273, 274, 275, 276, 277, 278, 279, 280, 281, 282, 283, 284, 285, 286, 287, 288] (by decide +kernel) (by decide +kernel)) (goodIn_sub (fun _ h => List.mem_cons_of_mem _ (List.mem_append_left _ (List.mem_append_left _ (List.mem_append_left _ (List.mem_append_right _ h))))) (by decide +kernel))) (goodIn_sub (fun _ h => List.mem_cons_of_mem _ (List.mem_append_left _ (List.mem_append_left _ (List.mem_append_right _ h)))) (by decide +kernel))) (goodIn_sub (fun _ h => List.mem_cons_of_mem _ (List.mem_append_left _ (List.mem_append_right _ h))) (by decide +kernel))) (goodIn_sub (fun _ h => List.mem_cons_of_mem _ (List.mem_append_right _ h)) (by decide +kernel))
set_option maxRecDepth 20000 in
theorem gX7_make_X7_change : GoodIn wsX7_make (wsV RX7 60 RX7 yX7_change wsX7_change) := goodIn_app (goodIn_of _ (by decide +kernel)) ggX7_make_X7_change
theorem dX7_make_0 : decode cX7_make 0 = .ok (.aload_n 0, 1) := by decide +kernel
theorem dX7_make_1 : decode cX7_make 1 = .ok (.bipush 109, 2) := by decide +kernel
theorem dX7_make_3 : decode cX7_make 3 = .ok (.iload_n 1, 1) := by decide +kernel
theorem dX7_make_4 : decode cX7_make 4 = .ok (.iload_n 2, 1) := by decide +kernel
theorem dX7_make_5 : decode cX7_make 5 = .ok (.iload_n 3, 1) := by decide +kernel
theorem dX7_make_6 : decode cX7_make 6 = .ok (.invokevirtual 60, 3) := by decide +kernel
theorem dX7_make_9 : decode cX7_make 9 = .ok (.ireturn, 1) := by decide +kernel
set_option maxRecDepth 20000 in
theorem ggX7_blank_X7_change : GoodIn wsX7_blank wsX7_change := goodIn_ca (goodIn_ca (goodIn_ca (goodIn_ca (goodIn_r _ [5, 6, 7, 8, 9, 10, 11, 12, 13, 14, 15, 16, 17, 18, 19, 20, 21, 22, 23, 24, 25, 26, 27, 28, 29, 30, 31, 32, 33, 34, 35, 36, 37, 38, 39, 40, 41, 42, 43, 44, 45, 46, 47, 48, 49, 50, 51, 52, 53, 54, 55, 4, 56, 57, 58, 59, 60, 61, 62, 63, 64, 65, 66, 67, 68, 69, 70, 71, 72, 73, 74, 75, 76, 77, 78, 79, 80, 81, 82, 83, 84, 85, 86, 87, 88, 89, 90, 91, 92, 93, 94, 95, 96, 97, 98, 99, 100, 101, 102, 103, 104, 105, 106, 107, 108, 109, 110, 111, 112, 113, 114, 115, 116, 117, 118, 119, 120, 121, 122, 123, 124, 125, 126, 127, 128, 129, 130, 131, 132, 133, 134, 135, 136, 137, 138, 139, 140, 141, 142, 143, 144, 145, 146, 147, 148, 149, 150, 151, 152, 153, 154, 155, 156, 157, 158, 159, 160, 161, 162, 163, 164, 165, 166, 167, 168, 169, 170, 171, 172, 173, 174, 175, 176, 177, 178, 179, 180, 181, 182, 183, 184, 185, 186, 187, 188, 189, 190, 191, 192, 193, 194, 195, 196, 197, 198, 199, 200, 201, 202, 203, 204, 205, 206, 207, 208, 209, 210, 211, 212, 213, 214, 215, 216, 217, 218, 219, 220, 221, 222, 223, 224, 225, 226, 227, 228, 229, 230, 231, 232, 233, 234, 235, 236, 237, 238, 239, 240, 241, 242, 243, 244, 245, 246, 247, 248, 249, 250, 251, 252, 253, 254, 255, 256, 257, 258, 259, 260, 261, 262, 263, 264, 265, 266, 267, 268, 269, 270, 271, 272, 273, 274, 275, 276, 277, 278, 279, 280, 281, 282, 283, 284, 285, 286, 287, 288] (by decide +kernel) (by decide +kernel)) (goodIn_sub (fun _ h => List.mem_cons_of_mem _ (List.mem_append_left _ (List.mem_append_left _ (List.mem_append_left _ (List.mem_append_right _ h))))) (by decide +kernel))) (goodIn_sub (fun _ h => List.mem_cons_of_mem _ (List.mem_append_left _ (List.mem_append_left _ (List.mem_append_right _ h)))) (by decide +kernel))) (goodIn_sub (fun _ h => List.mem_cons_of_mem _ (List.mem_append_left _ (List.mem_append_right _ h))) (by decide +kernel))) (goodIn_sub (fun _ h => List.mem_cons_of_mem _ (List.mem_append_right _ h)) (by decide +kernel))
set_option maxRecDepth 20000 in
theorem gX7_blank_X7_change : GoodIn wsX7_blank (wsV RX7 60 RX7 yX7_change wsX7_change) := goodIn_app (goodIn_of _ (by decide +kernel)) ggX7_blank_X7_change
theorem dX7_blank_0 : decode cX7_blank 0 = .ok (.aload_n 0, 1) := by decide +kernel
theorem dX7_blank_1 : decode cX7_blank 1 = .ok (.bipush 98, 2) := by decide +kernel
theorem dX7_blank_3 : decode cX7_blank 3 = .ok (.iload_n 1, 1) := by decide +kernel
theorem dX7_blank_4 : decode cX7_blank 4 = .ok (.iconst 0, 1) := by decide +kernel
theorem dX7_blank_5 : decode cX7_blank 5 = .ok (.iconst 0, 1) := by decide +kernel
theorem dX7_blank_6 : decode cX7_blank 6 = .ok (.invokevirtual 60, 3) := by decide +kernel
theorem dX7_blank_9 : decode cX7_blank 9 = .ok (.ireturn, 1) := by decide +kernel
set_option maxRecDepth 20000 in
theorem ggX7_tell_X7_change : GoodIn wsX7_tell wsX7_change := goodIn_ca (goodIn_ca (goodIn_ca (goodIn_ca (goodIn_r _ [5, 6, 7, 8, 9, 10, 11, 12, 13, 14, 15, 16, 17, 18, 19, 20, 21, 22, 23, 24, 25, 26, 27, 28, 29, 30, 31, 32, 33, 34, 35, 36, 37, 38, 39, 40, 41, 42, 43, 44, 45, 46, 47, 48, 49, 50, 51, 52, 53, 54, 55, 4, 56, 57, 58, 59, 60, 61, 62, 63, 64, 65, 66, 67, 68, 69, 70, 71, 72, 73, 74, 75, 76, 77, 78, 79, 80, 81, 82, 83, 84, 85, 86, 87, 88, 89, 90, 91, 92, 93, 94, 95, 96, 97, 98, 99, 100, 101, 102, 103, 104, 105, 106, 107, 108, 109, 110, 111, 112, 113, 114, 115, 116, 117, 118, 119, 120, 121, 122, 123, 124, 125, 126, 127, 128, 129, 130, 131, 132, 133, 134, 135, 136, 137, 138, 139, 140, 141, 142, 143, 144, 145, 146, 147, 148, 149, 150, 151, 152, 153, 154, 155, 156, 157, 158, 159, 160, 161, 162, 163, 164, 165, 166, 167, 168, 169, 170, 171, 172, 173, 174, 175, 176, 177, 178, 179, 180, 181, 182, 183, 184, 185, 186, 187, 188, 189, 190, 191, 192, 193, 194, 195, 196, 197, 198, 199, 200, 201, 202, 203, 204, 205, 206, 207, 208, 209, 210, 211, 212, 213, 214, 215, 216, 217, 218, 219, 220, 221, 222, 223, 224, 225, 226, 227, 228, 229, 230, 231, 232, 233, 234, 235, 236, 237, 238, 239, 240, 241, 242, 243, 244, 245, 246, 247, 248, 249, 250, 251, 252, 253, 254, 255, 256, 257, 258, 259, 260, 261, 262, 263, 264, 265, 266, 267, 268, 269, 270, 271, 272, 273, 274, 275, 276, 277, 278, 279, 280, 281, 282, 283, 284, 285, 286, 287, 288] (by decide +kernel) (by decide +kernel)) (goodIn_sub (fun _ h => List.mem_cons_of_mem _ (List.mem_append_left _ (List.mem_append_left _ (List.mem_append_left _ (List.mem_append_right _ h))))) (by decide +kernel))) (goodIn_sub (fun _ h => List.mem_cons_of_mem _ (List.mem_append_left _ (List.mem_append_left _ (List.mem_append_right _ h)))) (by decide +kernel))) (goodIn_sub (fun _ h => List.mem_cons_of_mem _ (List.mem_append_left _ (List.mem_append_right _ h))) (by decide +kernel))) (goodIn_sub (fun _ h => List.mem_cons_of_mem _ (List.mem_append_right _ h)) (by decide +kernel))
set_option maxRecDepth 20000 in
theorem gX7_tell_X7_change : GoodIn wsX7_tell (wsV RX7 60 RX7 yX7_change wsX7_change) := goodIn_app (goodIn_of _ (by decide +kernel)) ggX7_tell_X7_change
theorem dX7_tell_0 : decode cX7_tell 0 = .ok (.aload_n 0, 1) := by decide +kernel
theorem dX7_tell_1 : decode cX7_tell 1 = .ok (.bipush 116, 2) := by decide +kernel
theorem dX7_tell_3 : decode cX7_tell 3 = .ok (.iload_n 1, 1) := by decide +kernel
theorem dX7_tell_4 : decode cX7_tell 4 = .ok (.iload_n 2, 1) := by decide +kernel
theorem dX7_tell_5 : decode cX7_tell 5 = .ok (.iload_n 3, 1) := by decide +kernel
theorem dX7_tell_6 : decode cX7_tell 6 = .ok (.invokevirtual 60, 3) := by decide +kernel
theorem dX7_tell_9 : decode cX7_tell 9 = .ok (.ireturn, 1) := by decide +kernel
set_option maxRecDepth 20000 in
theorem ggX7_inspect_X7_change : GoodIn wsX7_inspect wsX7_change := goodIn_ca (goodIn_ca (goodIn_ca (goodIn_ca (goodIn_r _ [5, 6, 7, 8, 9, 10, 11, 12, 13, 14, 15, 16, 17, 18, 19, 20, 21, 22, 23, 24, 25, 26, 27, 28, 29, 30, 31, 32, 33, 34, 35, 36, 37, 38, 39, 40, 41, 42, 43, 44, 45, 46, 47, 48, 49, 50, 51, 52, 53, 54, 55, 4, 56, 57, 58, 59, 60, 61, 62, 63, 64, 65, 66, 67, 68, 69, 70, 71, 72, 73, 74, 75, 76, 77, 78, 79, 80, 81, 82, 83, 84, 85, 86, 87, 88, 89, 90, 91, 92, 93, 94, 95, 96, 97, 98, 99, 100, 101, 102, 103, 104, 105, 106, 107, 108, 109, 110, 111, 112, 113, 114, 115, 116, 117, 118, 119, 120, 121, 122, 123, 124, 125, 126, 127, 128, 129, 130, 131, 132, 133, 134, 135, 136, 137, 138, 139, 140, 141, 142, 143, 144, 145, 146, 147, 148, 149, 150, 151, 152, 153, 154, 155, 156, 157, 158, 159, 160, 161, 162, 163, 164, 165, 166, 167, 168, 169, 170, 171, 172, 173, 174, 175, 176, 177, 178, 179, 180, 181, 182, 183, 184, 185, 186, 187, 188, 189, 190, 191, 192, 193, 194, 195, 196, 197, 198, 199, 200, 201, 202, 203, 204, 205, 206, 207, 208, 209, 210, 211, 212, 213, 214, 215, 216, 217, 218, 219, 220, 221, 222, 223, 224, 225, 226, 227, 228, 229, 230, 231, 232, 233, 234, 235, 236, 237, 238, 239, 240, 241, 242, 243, 244, 245, 246, 247, 248, 249, 250, 251, 252, 253, 254, 255, 256, 257, 258, 259, 260, 261, 262, 263, 264, 265, 266, 267, 268, 269, 270, 271, 272, 273, 274, 275, 276, 277, 278, 279, 280, 281, 282, 283, 284, 285, 286, 287, 288] (by decide +kernel) (by decide +kernel)) (goodIn_sub (fun _ h => List.mem_cons_of_mem _ (List.mem_append_left _ (List.mem_append_left _ (List.mem_append_left _ (List.mem_append_right _ h))))) (by decide +kernel))) (goodIn_sub (fun _ h => List.mem_cons_of_mem _ (List.mem_append_left _ (List.mem_append_left _ (List.mem_append_right _ h)))) (by decide +kernel))) (goodIn_sub (fun _ h => List.mem_cons_of_mem _ (List.mem_append_left _ (List.mem_append_right _ h))) (by decide +kernel))) (goodIn_sub (fun _ h => List.mem_cons_of_mem _ (List.mem_append_right _ h)) (by decide +kernel))
set_option maxRecDepth 20000 in
theorem gX7_inspect_X7_change : GoodIn wsX7_inspect (wsV RX7 60 RX7 yX7_change wsX7_change) := goodIn_app (goodIn_of _ (by decide +kernel)) ggX7_inspect_X7_change
theorem dX7_inspect_0 : decode cX7_inspect 0 = .ok (.aload_n 0, 1) := by decide +kernel
theorem dX7_inspect_1 : decode cX7_inspect 1 = .ok (.bipush 105, 2) := by decide +kernel
theorem dX7_inspect_3 : decode cX7_inspect 3 = .ok (.iload_n 1, 1) := by decide +kernel
theorem dX7_inspect_4 : decode cX7_inspect 4 = .ok (.iconst 0, 1) := by decide +kernel
theorem dX7_inspect_5 : decode cX7_inspect 5 = .ok (.iconst 0, 1) := by decide +kernel
theorem dX7_inspect_6 : decode cX7_inspect 6 = .ok (.invokevirtual 60, 3) := by decide +kernel
theorem dX7_inspect_9 : decode cX7_inspect 9 = .ok (.ireturn, 1) := by decide +kernel
set_option maxRecDepth 20000 in
theorem ggX7_hire_X7_change : GoodIn wsX7_hire wsX7_change := goodIn_ca (goodIn_ca (goodIn_ca (goodIn_ca (goodIn_r _ [5, 6, 7, 8, 9, 10, 11, 12, 13, 14, 15, 16, 17, 18, 19, 20, 21, 22, 23, 24, 25, 26, 27, 28, 29, 30, 31, 32, 33, 34, 35, 36, 37, 38, 39, 40, 41, 42, 43, 44, 45, 46, 47, 48, 49, 50, 51, 52, 53, 54, 55, 4, 56, 57, 58, 59, 60, 61, 62, 63, 64, 65, 66, 67, 68, 69, 70, 71, 72, 73, 74, 75, 76, 77, 78, 79, 80, 81, 82, 83, 84, 85, 86, 87, 88, 89, 90, 91, 92, 93, 94, 95, 96, 97, 98, 99, 100, 101, 102, 103, 104, 105, 106, 107, 108, 109, 110, 111, 112, 113, 114, 115, 116, 117, 118, 119, 120, 121, 122, 123, 124, 125, 126, 127, 128, 129, 130, 131, 132, 133, 134, 135, 136, 137, 138, 139, 140, 141, 142, 143, 144, 145, 146, 147, 148, 149, 150, 151, 152, 153, 154, 155, 156, 157, 158, 159, 160, 161, 162, 163, 164, 165, 166, 167, 168, 169, 170, 171, 172, 173, 174, 175, 176, 177, 178, 179, 180, 181, 182, 183, 184, 185, 186, 187, 188, 189, 190, 191, 192, 193, 194, 195, 196, 197, 198, 199, 200, 201, 202, 203, 204, 205, 206, 207, 208, 209, 210, 211, 212, 213, 214, 215, 216, 217, 218, 219, 220, 221, 222, 223, 224, 225, 226, 227, 228, 229, 230, 231, 232, 233, 234, 235, 236, 237, 238, 239, 240, 241, 242, 243, 244, 245, 246, 247, 248, 249, 250, 251, 252, 253, 254, 255, 256, 257, 258, 259, 260, 261, 262, 263, 264, 265, 266, 267, 268, 269, 270, 271, 272, 273, 274, 275, 276, 277, 278, 279, 280, 281, 282, 283, 284, 285, 286, 287, 288] (by decide +kernel) (by decide +kernel)) (goodIn_sub (fun _ h => List.mem_cons_of_mem _ (List.mem_append_left _ (List.mem_append_left _ (List.mem_append_left _ (List.mem_append_right _ h))))) (by decide +kernel))) (goodIn_sub (fun _ h => List.mem_cons_of_mem _ (List.mem_append_left _ (List.mem_append_left _ (List.mem_append_right _ h)))) (by decide +kernel))) (goodIn_sub (fun _ h => List.mem_cons_of_mem _ (List.mem_append_left _ (List.mem_append_right _ h))) (by decide +kernel))) (goodIn_sub (fun _ h => List.mem_cons_of_mem _ (List.mem_append_right _ h)) (by decide +kernel))
set_option maxRecDepth 20000 in
theorem gX7_hire_X7_change : GoodIn wsX7_hire (wsV RX7 60 RX7 yX7_change wsX7_change) := goodIn_app (goodIn_of _ (by decide +kernel)) ggX7_hire_X7_change
theorem dX7_hire_0 : decode cX7_hire 0 = .ok (.aload_n 0, 1) := by decide +kernel
theorem dX7_hire_1 : decode cX7_hire 1 = .ok (.bipush 104, 2) := by decide +kernel
theorem dX7_hire_3 : decode cX7_hire 3 = .ok (.iconst 0, 1) := by decide +kernel
theorem dX7_hire_4 : decode cX7_hire 4 = .ok (.iconst 0, 1) := by decide +kernel
theorem dX7_hire_5 : decode cX7_hire 5 = .ok (.iconst 0, 1) := by decide +kernel
theorem dX7_hire_6 : decode cX7_hire 6 = .ok (.invokevirtual 60, 3) := by decide +kernel
theorem dX7_hire_9 : decode cX7_hire 9 = .ok (.ireturn, 1) := by decide +kernel
set_option maxRecDepth 20000 in
theorem ggX7_leave_X7_change : GoodIn wsX7_leave wsX7_change := goodIn_ca (goodIn_ca (goodIn_ca (goodIn_ca (goodIn_r _ [5, 6, 7, 8, 9, 10, 11, 12, 13, 14, 15, 16, 17, 18, 19, 20, 21, 22, 23, 24, 25, 26, 27, 28, 29, 30, 31, 32, 33, 34, 35, 36, 37, 38, 39, 40, 41, 42, 43, 44, 45, 46, 47, 48, 49, 50, 51, 52, 53, 54, 55, 4, 56, 57, 58, 59, 60, 61, 62, 63, 64, 65, 66, 67, 68, 69, 70, 71, 72, 73, 74, 75, 76, 77, 78, 79, 80, 81, 82, 83, 84, 85, 86, 87, 88, 89, 90, 91, 92, 93, 94, 95, 96, 97, 98, 99, 100, 101, 102, 103, 104, 105, 106, 107, 108, 109, 110, 111, 112, 113, 114, 115, 116, 117, 118, 119, 120, 121, 122, 123, 124, 125, 126, 127, 128, 129, 130, 131, 132, 133, 134, 135, 136, 137, 138, 139, 140, 141, 142, 143, 144, 145, 146, 147, 148, 149, 150, 151, 152, 153, 154, 155, 156, 157, 158, 159, 160, 161, 162, 163, 164, 165, 166, 167, 168, 169, 170, 171, 172, 173, 174, 175, 176, 177, 178, 179, 180, 181, 182, 183, 184, 185, 186, 187, 188, 189, 190, 191, 192, 193, 194, 195, 196, 197, 198, 199, 200, 201, 202, 203, 204, 205, 206, 207, 208, 209, 210, 211, 212, 213, 214, 215, 216, 217, 218, 219, 220, 221, 222, 223, 224, 225, 226, 227, 228, 229, 230, 231, 232, 233, 234, 235, 236, 237, 238, 239, 240, 241, 242, 243, 244, 245, 246, 247, 248, 249, 250, 251, 252, 253, 254, 255, 256, 257, 258, 259, 260, 261, 262, 263, 264, 265, 266, 267, 268, 269, 270, 271, 272, 273, 274, 275, 276, 277, 278, 279, 280, 281, 282, 283, 284, 285, 286, 287, 288] (by decide +kernel) (by decide +kernel)) (goodIn_sub (fun _ h => List.mem_cons_of_mem _ (List.mem_append_left _ (List.mem_append_left _ (List.mem_append_left _ (List.mem_append_right _ h))))) (by decide +kernel))) (goodIn_sub (fun _ h => List.mem_cons_of_mem _ (List.mem_append_left _ (List.mem_append_left _ (List.mem_append_right _ h)))) (by decide +kernel))) (goodIn_sub (fun _ h => List.mem_cons_of_mem _ (List.mem_append_left _ (List.mem_append_right _ h))) (by decide +kernel))) (goodIn_sub (fun _ h => List.mem_cons_of_mem _ (List.mem_append_right _ h)) (by decide +kernel))
set_option maxRecDepth 20000 in
theorem gX7_leave_X7_change : GoodIn wsX7_leave (wsV RX7 60 RX7 yX7_change wsX7_change) := goodIn_app (goodIn_of _ (by decide +kernel)) ggX7_leave_X7_change
theorem dX7_leave_0 : decode cX7_leave 0 = .ok (.aload_n 0, 1) := by decide +kernel
theorem dX7_leave_1 : decode cX7_leave 1 = .ok (.bipush 111, 2) := by decide +kernel
theorem dX7_leave_3 : decode cX7_leave 3 = .ok (.iload_n 1, 1) := by decide +kernel
theorem dX7_leave_4 : decode cX7_leave 4 = .ok (.iconst 0, 1) := by decide +kernel
theorem dX7_leave_5 : decode cX7_leave 5 = .ok (.iconst 0, 1) := by decide +kernel
theorem dX7_leave_6 : decode cX7_leave 6 = .ok (.invokevirtual 60, 3) := by decide +kernel
theorem dX7_leave_9 : decode cX7_leave 9 = .ok (.ireturn, 1) := by decide +kernel
set_option maxRecDepth 20000 in
theorem ggX7_sell_X7_change : GoodIn wsX7_sell wsX7_change := goodIn_ca (goodIn_ca (goodIn_ca (goodIn_ca (goodIn_r _ [5, 6, 7, 8, 9, 10, 11, 12, 13, 14, 15, 16, 17, 18, 19, 20, 21, 22, 23, 24, 25, 26, 27, 28, 29, 30, 31, 32, 33, 34, 35, 36, 37, 38, 39, 40, 41, 42, 43, 44, 45, 46, 47, 48, 49, 50, 51, 52, 53, 54, 55, 4, 56, 57, 58, 59, 60, 61, 62, 63, 64, 65, 66, 67, 68, 69, 70, 71, 72, 73, 74, 75, 76, 77, 78, 79, 80, 81, 82, 83, 84, 85, 86, 87, 88, 89, 90, 91, 92, 93, 94, 95, 96, 97, 98, 99, 100, 101, 102, 103, 104, 105, 106, 107, 108, 109, 110, 111, 112, 113, 114, 115, 116, 117, 118, 119, 120, 121, 122, 123, 124, 125, 126, 127, 128, 129, 130, 131, 132, 133, 134, 135, 136, 137, 138, 139, 140, 141, 142, 143, 144, 145, 146, 147, 148, 149, 150, 151, 152, 153, 154, 155, 156, 157, 158, 159, 160, 161, 162, 163, 164, 165, 166, 167, 168, 169, 170, 171, 172, 173, 174, 175, 176, 177, 178, 179, 180, 181, 182, 183, 184, 185, 186, 187, 188, 189, 190, 191, 192, 193, 194, 195, 196, 197, 198, 199, 200, 201, 202, 203, 204, 205, 206, 207, 208, 209, 210, 211, 212, 213, 214, 215, 216, 217, 218, 219, 220, 221, 222, 223, 224, 225, 226, 227, 228, 229, 230, 231, 232, 233, 234, 235, 236, 237, 238, 239, 240, 241, 242, 243, 244, 245, 246, 247, 248, 249, 250, 251, 252, 253, 254, 255, 256, 257, 258, 259, 260, 261, 262, 263, 264, 265, 266, 267, 268, 269, 270, 271, 272, 273, 274, 275, 276, 277, 278, 279, 280, 281, 282, 283, 284, 285, 286, 287, 288] (by decide +kernel) (by decide +kernel)) (goodIn_sub (fun _ h => List.mem_cons_of_mem _ (List.mem_append_left _ (List.mem_append_left _ (List.mem_append_left _ (List.mem_append_right _ h))))) (by decide +kernel))) (goodIn_sub (fun _ h => List.mem_cons_of_mem _ (List.mem_append_left _ (List.mem_append_left _ (List.mem_append_right _ h)))) (by decide +kernel))) (goodIn_sub (fun _ h => List.mem_cons_of_mem _ (List.mem_append_left _ (List.mem_append_right _ h))) (by decide +kernel))) (goodIn_sub (fun _ h => List.mem_cons_of_mem _ (List.mem_append_right _ h)) (by decide +kernel))
set_option maxRecDepth 20000 in
theorem gX7_sell_X7_change : GoodIn wsX7_sell (wsV RX7 60 RX7 yX7_change wsX7_change) := goodIn_app (goodIn_of _ (by decide +kernel)) ggX7_sell_X7_change
theorem dX7_sell_0 : decode cX7_sell 0 = .ok (.aload_n 0, 1) := by decide +kernel
theorem dX7_sell_1 : decode cX7_sell 1 = .ok (.bipush 115, 2) := by decide +kernel
theorem dX7_sell_3 : decode cX7_sell 3 = .ok (.iload_n 1, 1) := by decide +kernel
theorem dX7_sell_4 : decode cX7_sell 4 = .ok (.iconst 0, 1) := by decide +kernel
theorem dX7_sell_5 : decode cX7_sell 5 = .ok (.iconst 0, 1) := by decide +kernel
theorem dX7_sell_6 : decode cX7_sell 6 = .ok (.invokevirtual 60, 3) := by decide +kernel
theorem dX7_sell_9 : decode cX7_sell 9 = .ok (.ireturn, 1) := by decide +kernel
set_option maxRecDepth 20000 in
theorem ggX7_repair_X7_change : GoodIn wsX7_repair wsX7_change := goodIn_ca (goodIn_ca (goodIn_ca (goodIn_ca (goodIn_r _ [5, 6, 7, 8, 9, 10, 11, 12, 13, 14, 15, 16, 17, 18, 19, 20, 21, 22, 23, 24, 25, 26, 27, 28, 29, 30, 31, 32, 33, 34, 35, 36, 37, 38, 39, 40, 41, 42, 43, 44, 45, 46, 47, 48, 49, 50, 51, 52, 53, 54, 55, 4, 56, 57, 58, 59, 60, 61, 62, 63, 64, 65, 66, 67, 68, 69, 70, 71, 72, 73, 74, 75, 76, 77, 78, 79, 80, 81, 82, 83, 84, 85, 86, 87, 88, 89, 90, 91, 92, 93, 94, 95, 96, 97, 98, 99, 100, 101, 102, 103, 104, 105, 106, 107, 108, 109, 110, 111, 112, 113, 114, 115, 116, 117, 118, 119, 120, 121, 122, 123, 124, 125, 126, 127, 128, 129, 130, 131, 132, 133, 134, 135, 136, 137, 138, 139, 140, 141, 142, 143, 144, 145, 146, 147, 148, 149, 150, 151, 152, 153, 154, 155, 156, 157, 158, 159, 160, 161, 162, 163, 164, 165, 166, 167, 168, 169, 170, 171, 172, 173, 174, 175, 176, 177, 178, 179, 180, 181, 182, 183, 184, 185, 186, 187, 188, 189, 190, 191, 192, 193, 194, 195, 196, 197, 198, 199, 200, 201, 202, 203, 204, 205, 206, 207, 208, 209, 210, 211, 212, 213, 214, 215, 216, 217, 218, 219, 220, 221, 222, 223, 224, 225, 226, 227, 228, 229, 230, 231, 232, 233, 234, 235, 236, 237, 238, 239, 240, 241, 242, 243, 244, 245, 246, 247, 248, 249, 250, 251, 252, 253, 254, 255, 256, 257, 258, 259, 260, 261, 262, 263, 264, 265, 266, 267, 268, 269, 270, 271, 272, 273, 274, 275, 276, 277, 278, 279, 280, 281, 282, 283, 284, 285, 286, 287, 288] (by decide +kernel) (by decide +kernel)) (goodIn_sub (fun _ h => List.mem_cons_of_mem _ (List.mem_append_left _ (List.mem_append_left _ (List.mem_append_left _ (List.mem_append_right _ h))))) (by decide +kernel))) (goodIn_sub (fun _ h => List.mem_cons_of_mem _ (List.mem_append_left _ (List.mem_append_left _ (List.mem_append_right _ h)))) (by decide +kernel))) (goodIn_sub (fun _ h => List.mem_cons_of_mem _ (List.mem_append_left _ (List.mem_append_right _ h))) (by decide +kernel))) (goodIn_sub (fun _ h => List.mem_cons_of_mem _ (List.mem_append_right _ h)) (by decide +kernel))
set_option maxRecDepth 20000 in
theorem gX7_repair_X7_change : GoodIn wsX7_repair (wsV RX7 60 RX7 yX7_change wsX7_change) := goodIn_app (goodIn_of _ (by decide +kernel)) ggX7_repair_X7_change
theorem dX7_repair_0 : decode cX7_repair 0 = .ok (.aload_n 0, 1) := by decide +kernel
theorem dX7_repair_1 : decode cX7_repair 1 = .ok (.bipush 114, 2) := by decide +kernel
theorem dX7_repair_3 : decode cX7_repair 3 = .ok (.iload_n 1, 1) := by decide +kernel
theorem dX7_repair_4 : decode cX7_repair 4 = .ok (.iconst 0, 1) := by decide +kernel
theorem dX7_repair_5 : decode cX7_repair 5 = .ok (.iconst 0, 1) := by decide +kernel
theorem dX7_repair_6 : decode cX7_repair 6 = .ok (.invokevirtual 60, 3) := by decide +kernel
theorem dX7_repair_9 : decode cX7_repair 9 = .ok (.ireturn, 1) := by decide +kernel
set_option maxRecDepth 20000 in
theorem ggX7_week_X7_change : GoodIn wsX7_week wsX7_change := goodIn_ca (goodIn_ca (goodIn_ca (goodIn_ca (goodIn_r _ [5, 6, 7, 8, 9, 10, 11, 12, 13, 14, 15, 16, 17, 18, 19, 20, 21, 22, 23, 24, 25, 26, 27, 28, 29, 30, 31, 32, 33, 34, 35, 36, 37, 38, 39, 40, 41, 42, 43, 44, 45, 46, 47, 48, 49, 50, 51, 52, 53, 54, 55, 4, 56, 57, 58, 59, 60, 61, 62, 63, 64, 65, 66, 67, 68, 69, 70, 71, 72, 73, 74, 75, 76, 77, 78, 79, 80, 81, 82, 83, 84, 85, 86, 87, 88, 89, 90, 91, 92, 93, 94, 95, 96, 97, 98, 99, 100, 101, 102, 103, 104, 105, 106, 107, 108, 109, 110, 111, 112, 113, 114, 115, 116, 117, 118, 119, 120, 121, 122, 123, 124, 125, 126, 127, 128, 129, 130, 131, 132, 133, 134, 135, 136, 137, 138, 139, 140, 141, 142, 143, 144, 145, 146, 147, 148, 149, 150, 151, 152, 153, 154, 155, 156, 157, 158, 159, 160, 161, 162, 163, 164, 165, 166, 167, 168, 169, 170, 171, 172, 173, 174, 175, 176, 177, 178, 179, 180, 181, 182, 183, 184, 185, 186, 187, 188, 189, 190, 191, 192, 193, 194, 195, 196, 197, 198, 199, 200, 201, 202, 203, 204, 205, 206, 207, 208, 209, 210, 211, 212, 213, 214, 215, 216, 217, 218, 219, 220, 221, 222, 223, 224, 225, 226, 227, 228, 229, 230, 231, 232, 233, 234, 235, 236, 237, 238, 239, 240, 241, 242, 243, 244, 245, 246, 247, 248, 249, 250, 251, 252, 253, 254, 255, 256, 257, 258, 259, 260, 261, 262, 263, 264, 265, 266, 267, 268, 269, 270, 271, 272, 273, 274, 275, 276, 277, 278, 279, 280, 281, 282, 283, 284, 285, 286, 287, 288] (by decide +kernel) (by decide +kernel)) (goodIn_sub (fun _ h => List.mem_cons_of_mem _ (List.mem_append_left _ (List.mem_append_left _ (List.mem_append_left _ (List.mem_append_right _ h))))) (by decide +kernel))) (goodIn_sub (fun _ h => List.mem_cons_of_mem _ (List.mem_append_left _ (List.mem_append_left _ (List.mem_append_right _ h)))) (by decide +kernel))) (goodIn_sub (fun _ h => List.mem_cons_of_mem _ (List.mem_append_left _ (List.mem_append_right _ h))) (by decide +kernel))) (goodIn_sub (fun _ h => List.mem_cons_of_mem _ (List.mem_append_right _ h)) (by decide +kernel))
set_option maxRecDepth 20000 in
theorem gX7_week_X7_change : GoodIn wsX7_week (wsV RX7 60 RX7 yX7_change wsX7_change) := goodIn_app (goodIn_of _ (by decide +kernel)) ggX7_week_X7_change
theorem dX7_week_0 : decode cX7_week 0 = .ok (.aload_n 0, 1) := by decide +kernel
theorem dX7_week_1 : decode cX7_week 1 = .ok (.bipush 119, 2) := by decide +kernel
theorem dX7_week_3 : decode cX7_week 3 = .ok (.iconst 0, 1) := by decide +kernel
theorem dX7_week_4 : decode cX7_week 4 = .ok (.iconst 0, 1) := by decide +kernel
theorem dX7_week_5 : decode cX7_week 5 = .ok (.iconst 0, 1) := by decide +kernel
theorem dX7_week_6 : decode cX7_week 6 = .ok (.invokevirtual 60, 3) := by decide +kernel
theorem dX7_week_9 : decode cX7_week 9 = .ok (.ireturn, 1) := by decide +kernel
set_option maxRecDepth 20000 in
theorem ggX7_beltOf_X7_demandBelt : GoodIn wsX7_beltOf wsX7_demandBelt := goodIn_ca (goodIn_r _ [14, 15, 16, 17, 18, 13, 19] (by decide +kernel) (by decide +kernel)) (goodIn_sub (fun _ h => List.mem_cons_of_mem _ (List.mem_append_left _ (List.mem_append_left _ (List.mem_append_right _ h)))) (by decide +kernel))
set_option maxRecDepth 20000 in
theorem gX7_beltOf_X7_demandBelt : GoodIn wsX7_beltOf (wsV RX7 64 RX7 yX7_demandBelt wsX7_demandBelt) := goodIn_app (goodIn_of _ (by decide +kernel)) ggX7_beltOf_X7_demandBelt
set_option maxRecDepth 20000 in
theorem ggX7_beltOf_X7_demandWhat : GoodIn wsX7_beltOf wsX7_demandWhat := goodIn_ca (goodIn_r _ [22, 23, 24] (by decide +kernel) (by decide +kernel)) (goodIn_sub (fun _ h => List.mem_cons_of_mem _ (List.mem_append_left _ (List.mem_append_right _ h))) (by decide +kernel))
set_option maxRecDepth 20000 in
theorem gX7_beltOf_X7_demandWhat : GoodIn wsX7_beltOf (va_wsS RX7 68 yX7_demandWhat wsX7_demandWhat) := goodIn_app (goodIn_of _ (by decide +kernel)) ggX7_beltOf_X7_demandWhat
set_option maxRecDepth 20000 in
theorem ggX7_beltOf_X0_blanks : GoodIn wsX7_beltOf wsX0_blanks := goodIn_ca (goodIn_r _ [29, 30, 31, 32, 33, 34, 35, 36, 37, 38, 39, 40, 41, 42, 65, 66, 67, 68, 69, 70, 71, 72] (by decide +kernel) (by decide +kernel)) (goodIn_sub (fun _ h => List.mem_cons_of_mem _ (List.mem_append_right _ h)) (by decide +kernel))
set_option maxRecDepth 20000 in
theorem gX7_beltOf_X0_blanks : GoodIn wsX7_beltOf (wsV RX7 87 RX0 yX0_blanks wsX0_blanks) := goodIn_app (goodIn_of _ (by decide +kernel)) ggX7_beltOf_X0_blanks
theorem dX7_beltOf_0 : decode cX7_beltOf 0 = .ok (.aload_n 0, 1) := by decide +kernel
theorem dX7_beltOf_1 : decode cX7_beltOf 1 = .ok (.iload_n 1, 1) := by decide +kernel
theorem dX7_beltOf_2 : decode cX7_beltOf 2 = .ok (.invokevirtual 64, 3) := by decide +kernel
theorem dX7_beltOf_5 : decode cX7_beltOf 5 = .ok (.iload_n 2, 1) := by decide +kernel
theorem dX7_beltOf_6 : decode cX7_beltOf 6 = .ok (.bipush 6, 2) := by decide +kernel
theorem dX7_beltOf_8 : decode cX7_beltOf 8 = .ok (.invokestatic 68, 3) := by decide +kernel
theorem dX7_beltOf_11 : decode cX7_beltOf 11 = .ok (.aload_n 0, 1) := by decide +kernel
theorem dX7_beltOf_12 : decode cX7_beltOf 12 = .ok (.getfield 10, 3) := by decide +kernel
theorem dX7_beltOf_15 : decode cX7_beltOf 15 = .ok (.getfield 72, 3) := by decide +kernel
theorem dX7_beltOf_18 : decode cX7_beltOf 18 = .ok (.iload_n 1, 1) := by decide +kernel
theorem dX7_beltOf_19 : decode cX7_beltOf 19 = .ok (.aaload, 1) := by decide +kernel
theorem dX7_beltOf_20 : decode cX7_beltOf 20 = .ok (.astore_n 3, 1) := by decide +kernel
theorem dX7_beltOf_21 : decode cX7_beltOf 21 = .ok (.iload_n 2, 1) := by decide +kernel
theorem dX7_beltOf_22 : decode cX7_beltOf 22 = .ok (.tableswitch 71 0 5 #[38, 46, 51, 56, 61, 66], 38) := by decide +kernel
theorem dX7_beltOf_60 : decode cX7_beltOf 60 = .ok (.aload_n 3, 1) := by decide +kernel
theorem dX7_beltOf_61 : decode cX7_beltOf 61 = .ok (.getfield 76, 3) := by decide +kernel
theorem dX7_beltOf_64 : decode cX7_beltOf 64 = .ok (.getfield 82, 3) := by decide +kernel
theorem dX7_beltOf_67 : decode cX7_beltOf 67 = .ok (.ireturn, 1) := by decide +kernel
theorem dX7_beltOf_68 : decode cX7_beltOf 68 = .ok (.aload_n 3, 1) := by decide +kernel
theorem dX7_beltOf_69 : decode cX7_beltOf 69 = .ok (.invokevirtual 87, 3) := by decide +kernel
theorem dX7_beltOf_72 : decode cX7_beltOf 72 = .ok (.ireturn, 1) := by decide +kernel
theorem dX7_beltOf_73 : decode cX7_beltOf 73 = .ok (.aload_n 3, 1) := by decide +kernel
theorem dX7_beltOf_74 : decode cX7_beltOf 74 = .ok (.getfield 91, 3) := by decide +kernel
theorem dX7_beltOf_77 : decode cX7_beltOf 77 = .ok (.ireturn, 1) := by decide +kernel
theorem dX7_beltOf_78 : decode cX7_beltOf 78 = .ok (.aload_n 3, 1) := by decide +kernel
theorem dX7_beltOf_79 : decode cX7_beltOf 79 = .ok (.getfield 94, 3) := by decide +kernel
theorem dX7_beltOf_82 : decode cX7_beltOf 82 = .ok (.ireturn, 1) := by decide +kernel
theorem dX7_beltOf_83 : decode cX7_beltOf 83 = .ok (.aload_n 3, 1) := by decide +kernel
theorem dX7_beltOf_84 : decode cX7_beltOf 84 = .ok (.getfield 97, 3) := by decide +kernel
theorem dX7_beltOf_87 : decode cX7_beltOf 87 = .ok (.ireturn, 1) := by decide +kernel
theorem dX7_beltOf_88 : decode cX7_beltOf 88 = .ok (.aload_n 3, 1) := by decide +kernel
theorem dX7_beltOf_89 : decode cX7_beltOf 89 = .ok (.getfield 100, 3) := by decide +kernel
theorem dX7_beltOf_92 : decode cX7_beltOf 92 = .ok (.ireturn, 1) := by decide +kernel
theorem dX7_beltOf_93 : decode cX7_beltOf 93 = .ok (.aload_n 3, 1) := by decide +kernel
theorem dX7_beltOf_94 : decode cX7_beltOf 94 = .ok (.getfield 103, 3) := by decide +kernel
theorem dX7_beltOf_97 : decode cX7_beltOf 97 = .ok (.ireturn, 1) := by decide +kernel
set_option maxRecDepth 20000 in
theorem ggX7_carrier_X7_demandPlace : GoodIn wsX7_carrier wsX7_demandPlace := goodIn_ca (goodIn_r _ [8, 9, 10, 1, 2, 3, 11, 12, 7, 13, 14, 15, 16, 17, 18, 19, 35, 36, 37, 38, 39, 40, 41, 42, 43, 44, 45, 46, 47, 48, 49, 50, 51, 52, 53, 54, 55, 56, 57, 58, 59, 60, 61, 62, 63, 64] (by decide +kernel) (by decide +kernel)) (goodIn_sub (fun _ h => List.mem_cons_of_mem _ (List.mem_append_left _ (List.mem_append_left _ (List.mem_append_right _ h)))) (by decide +kernel))
set_option maxRecDepth 20000 in
theorem gX7_carrier_X7_demandPlace : GoodIn wsX7_carrier (wsV RX7 106 RX7 yX7_demandPlace wsX7_demandPlace) := goodIn_app (goodIn_of _ (by decide +kernel)) ggX7_carrier_X7_demandPlace
set_option maxRecDepth 20000 in
theorem ggX7_carrier_X7_demandWhat : GoodIn wsX7_carrier wsX7_demandWhat := goodIn_ca (goodIn_r _ [22, 23, 24] (by decide +kernel) (by decide +kernel)) (goodIn_sub (fun _ h => List.mem_cons_of_mem _ (List.mem_append_left _ (List.mem_append_right _ h))) (by decide +kernel))
set_option maxRecDepth 20000 in
theorem gX7_carrier_X7_demandWhat : GoodIn wsX7_carrier (va_wsS RX7 68 yX7_demandWhat wsX7_demandWhat) := goodIn_app (goodIn_of _ (by decide +kernel)) ggX7_carrier_X7_demandWhat
set_option maxRecDepth 20000 in
theorem ggX7_carrier_X6_isBlank : GoodIn wsX7_carrier wsX6_isBlank := goodIn_ca (goodIn_r _ [28, 29, 30, 31, 17, 32, 19, 33, 63, 64] (by decide +kernel) (by decide +kernel)) (goodIn_sub (fun _ h => List.mem_cons_of_mem _ (List.mem_append_right _ h)) (by decide +kernel))
set_option maxRecDepth 20000 in
theorem gX7_carrier_X6_isBlank : GoodIn wsX7_carrier (wsV RX7 109 RX6 yX6_isBlank wsX6_isBlank) := goodIn_app (goodIn_of _ (by decide +kernel)) ggX7_carrier_X6_isBlank
set_option maxRecDepth 20000 in
theorem ggX7_carrier_X6_number : GoodIn wsX7_carrier wsX6_number := goodIn_ca (goodIn_r _ [32, 19, 33, 63, 64] (by decide +kernel) (by decide +kernel)) (goodIn_sub (fun _ h => List.mem_cons_of_mem _ (List.mem_append_right _ h)) (by decide +kernel))
set_option maxRecDepth 20000 in
theorem gX7_carrier_X6_number : GoodIn wsX7_carrier (wsV RX7 113 RX6 yX6_number wsX6_number) := goodIn_app (goodIn_of _ (by decide +kernel)) ggX7_carrier_X6_number
theorem dX7_carrier_0 : decode cX7_carrier 0 = .ok (.aload_n 0, 1) := by decide +kernel
theorem dX7_carrier_1 : decode cX7_carrier 1 = .ok (.iload_n 1, 1) := by decide +kernel
theorem dX7_carrier_2 : decode cX7_carrier 2 = .ok (.iload_n 2, 1) := by decide +kernel
theorem dX7_carrier_3 : decode cX7_carrier 3 = .ok (.invokevirtual 106, 3) := by decide +kernel
theorem dX7_carrier_6 : decode cX7_carrier 6 = .ok (.iload_n 3, 1) := by decide +kernel
theorem dX7_carrier_7 : decode cX7_carrier 7 = .ok (.iconst 3, 1) := by decide +kernel
theorem dX7_carrier_8 : decode cX7_carrier 8 = .ok (.invokestatic 68, 3) := by decide +kernel
theorem dX7_carrier_11 : decode cX7_carrier 11 = .ok (.aload_n 0, 1) := by decide +kernel
theorem dX7_carrier_12 : decode cX7_carrier 12 = .ok (.getfield 10, 3) := by decide +kernel
theorem dX7_carrier_15 : decode cX7_carrier 15 = .ok (.getfield 72, 3) := by decide +kernel
theorem dX7_carrier_18 : decode cX7_carrier 18 = .ok (.iload_n 1, 1) := by decide +kernel
theorem dX7_carrier_19 : decode cX7_carrier 19 = .ok (.aaload, 1) := by decide +kernel
theorem dX7_carrier_20 : decode cX7_carrier 20 = .ok (.getfield 76, 3) := by decide +kernel
theorem dX7_carrier_23 : decode cX7_carrier 23 = .ok (.astore 4, 2) := by decide +kernel
theorem dX7_carrier_25 : decode cX7_carrier 25 = .ok (.iload_n 3, 1) := by decide +kernel
theorem dX7_carrier_26 : decode cX7_carrier 26 = .ok (.tableswitch 57 0 2 #[26, 41, 49], 26) := by decide +kernel
theorem dX7_carrier_52 : decode cX7_carrier 52 = .ok (.aload 4, 2) := by decide +kernel
theorem dX7_carrier_54 : decode cX7_carrier 54 = .ok (.iload_n 2, 1) := by decide +kernel
theorem dX7_carrier_55 : decode cX7_carrier 55 = .ok (.invokevirtual 109, 3) := by decide +kernel
theorem dX7_carrier_58 : decode cX7_carrier 58 = .ok (.ifCond .eq 7, 3) := by decide +kernel
theorem dX7_carrier_61 : decode cX7_carrier 61 = .ok (.iconst 1, 1) := by decide +kernel
theorem dX7_carrier_62 : decode cX7_carrier 62 = .ok (.goto 4, 3) := by decide +kernel
theorem dX7_carrier_65 : decode cX7_carrier 65 = .ok (.iconst 0, 1) := by decide +kernel
theorem dX7_carrier_66 : decode cX7_carrier 66 = .ok (.ireturn, 1) := by decide +kernel
theorem dX7_carrier_67 : decode cX7_carrier 67 = .ok (.aload 4, 2) := by decide +kernel
theorem dX7_carrier_69 : decode cX7_carrier 69 = .ok (.iload_n 2, 1) := by decide +kernel
theorem dX7_carrier_70 : decode cX7_carrier 70 = .ok (.iconst 0, 1) := by decide +kernel
theorem dX7_carrier_71 : decode cX7_carrier 71 = .ok (.invokevirtual 113, 3) := by decide +kernel
theorem dX7_carrier_74 : decode cX7_carrier 74 = .ok (.ireturn, 1) := by decide +kernel
theorem dX7_carrier_75 : decode cX7_carrier 75 = .ok (.aload 4, 2) := by decide +kernel
theorem dX7_carrier_77 : decode cX7_carrier 77 = .ok (.iload_n 2, 1) := by decide +kernel
theorem dX7_carrier_78 : decode cX7_carrier 78 = .ok (.iconst 1, 1) := by decide +kernel
theorem dX7_carrier_79 : decode cX7_carrier 79 = .ok (.invokevirtual 113, 3) := by decide +kernel
theorem dX7_carrier_82 : decode cX7_carrier 82 = .ok (.ireturn, 1) := by decide +kernel
theorem dX7_carrier_83 : decode cX7_carrier 83 = .ok (.aload 4, 2) := by decide +kernel
theorem dX7_carrier_85 : decode cX7_carrier 85 = .ok (.iload_n 2, 1) := by decide +kernel
theorem dX7_carrier_86 : decode cX7_carrier 86 = .ok (.iconst 2, 1) := by decide +kernel
theorem dX7_carrier_87 : decode cX7_carrier 87 = .ok (.invokevirtual 113, 3) := by decide +kernel
theorem dX7_carrier_90 : decode cX7_carrier 90 = .ok (.ireturn, 1) := by decide +kernel
set_option maxRecDepth 20000 in
theorem ggX7_yawns_X1_has : GoodIn wsX7_yawns wsX1_has := goodIn_r _ [9, 10, 39, 40] (by decide +kernel) (by decide +kernel)
set_option maxRecDepth 20000 in
theorem gX7_yawns_X1_has : GoodIn wsX7_yawns (wsV RX7 121 RX1 yX1_has wsX1_has) := goodIn_app (goodIn_of _ (by decide +kernel)) ggX7_yawns_X1_has
set_option maxRecDepth 20000 in
theorem ggX7_yawns_X1_yawned : GoodIn wsX7_yawns wsX1_yawned := goodIn_ca (goodIn_r _ [14, 15, 16, 6, 7, 8, 9, 10, 39, 40] (by decide +kernel) (by decide +kernel)) (goodIn_sub (fun _ h => List.mem_cons_of_mem _ (List.mem_append_right _ h)) (by decide +kernel))
set_option maxRecDepth 20000 in
theorem gX7_yawns_X1_yawned : GoodIn wsX7_yawns (wsV RX7 133 RX1 yX1_yawned wsX1_yawned) := goodIn_app (goodIn_of _ (by decide +kernel)) ggX7_yawns_X1_yawned
theorem dX7_yawns_0 : decode cX7_yawns 0 = .ok (.aload_n 0, 1) := by decide +kernel
theorem dX7_yawns_1 : decode cX7_yawns 1 = .ok (.getfield 10, 3) := by decide +kernel
theorem dX7_yawns_4 : decode cX7_yawns 4 = .ok (.getfield 117, 3) := by decide +kernel
theorem dX7_yawns_7 : decode cX7_yawns 7 = .ok (.iload_n 1, 1) := by decide +kernel
theorem dX7_yawns_8 : decode cX7_yawns 8 = .ok (.invokevirtual 121, 3) := by decide +kernel
theorem dX7_yawns_11 : decode cX7_yawns 11 = .ok (.ifCond .ne 13, 3) := by decide +kernel
theorem dX7_yawns_14 : decode cX7_yawns 14 = .ok (.new 126, 3) := by decide +kernel
theorem dX7_yawns_17 : decode cX7_yawns 17 = .ok (.dup, 1) := by decide +kernel
theorem dX7_yawns_18 : decode cX7_yawns 18 = .ok (.ldc 128, 2) := by decide +kernel
theorem dX7_yawns_20 : decode cX7_yawns 20 = .ok (.invokespecial 130, 3) := by decide +kernel
theorem dX7_yawns_23 : decode cX7_yawns 23 = .ok (.athrow, 1) := by decide +kernel
theorem dX7_yawns_24 : decode cX7_yawns 24 = .ok (.aload_n 0, 1) := by decide +kernel
theorem dX7_yawns_25 : decode cX7_yawns 25 = .ok (.getfield 10, 3) := by decide +kernel
theorem dX7_yawns_28 : decode cX7_yawns 28 = .ok (.getfield 117, 3) := by decide +kernel
theorem dX7_yawns_31 : decode cX7_yawns 31 = .ok (.iload_n 1, 1) := by decide +kernel
theorem dX7_yawns_32 : decode cX7_yawns 32 = .ok (.invokevirtual 133, 3) := by decide +kernel
theorem dX7_yawns_35 : decode cX7_yawns 35 = .ok (.ireturn, 1) := by decide +kernel
set_option maxRecDepth 20000 in
theorem ggX7_passes_X7_demandPlace : GoodIn wsX7_passes wsX7_demandPlace := goodIn_ca (goodIn_r _ [10, 11, 12, 3, 4, 5, 13, 14, 9, 15, 16, 17, 18, 19, 20, 21, 47, 48, 49, 50, 51, 52, 53, 54, 55, 56, 57, 58, 59, 60, 61, 62, 63, 64, 65, 66, 67, 68, 69, 70, 71, 72, 73, 74, 75, 76] (by decide +kernel) (by decide +kernel)) (goodIn_sub (fun _ h => List.mem_cons_of_mem _ (List.mem_append_left _ (List.mem_append_right _ h))) (by decide +kernel))
set_option maxRecDepth 20000 in
theorem gX7_passes_X7_demandPlace : GoodIn wsX7_passes (wsV RX7 106 RX7 yX7_demandPlace wsX7_demandPlace) := goodIn_app (goodIn_of _ (by decide +kernel)) ggX7_passes_X7_demandPlace
set_option maxRecDepth 20000 in
theorem ggX7_passes_X6_isBlank : GoodIn wsX7_passes wsX6_isBlank := goodIn_ca (goodIn_r _ [25, 26, 27, 28, 19, 29, 21, 30, 75, 76] (by decide +kernel) (by decide +kernel)) (goodIn_sub (fun _ h => List.mem_cons_of_mem _ (List.mem_append_right _ h)) (by decide +kernel))
set_option maxRecDepth 20000 in
theorem gX7_passes_X6_isBlank : GoodIn wsX7_passes (wsV RX7 109 RX6 yX6_isBlank wsX6_isBlank) := goodIn_app (goodIn_of _ (by decide +kernel)) ggX7_passes_X6_isBlank
set_option maxRecDepth 20000 in
theorem ggX7_passes_X6_grey : GoodIn wsX7_passes wsX6_grey := goodIn_ca (goodIn_r _ [34, 26, 27, 28, 19, 29, 21, 30, 75, 76] (by decide +kernel) (by decide +kernel)) (goodIn_sub (fun _ h => List.mem_cons_of_mem _ (List.mem_append_right _ h)) (by decide +kernel))
set_option maxRecDepth 20000 in
theorem gX7_passes_X6_grey : GoodIn wsX7_passes (wsV RX7 142 RX6 yX6_grey wsX6_grey) := goodIn_app (goodIn_of _ (by decide +kernel)) ggX7_passes_X6_grey
set_option maxRecDepth 20000 in
theorem ggX7_passes_X6_alarm : GoodIn wsX7_passes wsX6_alarm := goodIn_ca (goodIn_r _ [38, 26, 27, 28, 19, 29, 21, 30, 75, 76] (by decide +kernel) (by decide +kernel)) (goodIn_sub (fun _ h => List.mem_cons_of_mem _ (List.mem_append_right _ h)) (by decide +kernel))
set_option maxRecDepth 20000 in
theorem gX7_passes_X6_alarm : GoodIn wsX7_passes (wsV RX7 145 RX6 yX6_alarm wsX6_alarm) := goodIn_app (goodIn_of _ (by decide +kernel)) ggX7_passes_X6_alarm
set_option maxRecDepth 20000 in
theorem ggX7_passes_X0_isPassedBy : GoodIn wsX7_passes wsX0_isPassedBy := goodIn_r _ [43, 44, 45, 46, 69, 70, 71, 72, 73, 74] (by decide +kernel) (by decide +kernel)
set_option maxRecDepth 20000 in
theorem gX7_passes_X0_isPassedBy : GoodIn wsX7_passes (wsV RX7 148 RX0 yX0_isPassedBy wsX0_isPassedBy) := goodIn_app (goodIn_of _ (by decide +kernel)) ggX7_passes_X0_isPassedBy
theorem dX7_passes_0 : decode cX7_passes 0 = .ok (.aload_n 0, 1) := by decide +kernel
theorem dX7_passes_1 : decode cX7_passes 1 = .ok (.iload_n 1, 1) := by decide +kernel
theorem dX7_passes_2 : decode cX7_passes 2 = .ok (.iload_n 2, 1) := by decide +kernel
theorem dX7_passes_3 : decode cX7_passes 3 = .ok (.invokevirtual 106, 3) := by decide +kernel
theorem dX7_passes_6 : decode cX7_passes 6 = .ok (.iload_n 3, 1) := by decide +kernel
theorem dX7_passes_7 : decode cX7_passes 7 = .ok (.iconst 1, 1) := by decide +kernel
theorem dX7_passes_8 : decode cX7_passes 8 = .ok (.if_icmp .lt 8, 3) := by decide +kernel
theorem dX7_passes_11 : decode cX7_passes 11 = .ok (.iload_n 3, 1) := by decide +kernel
theorem dX7_passes_12 : decode cX7_passes 12 = .ok (.iconst 3, 1) := by decide +kernel
theorem dX7_passes_13 : decode cX7_passes 13 = .ok (.if_icmp .le 13, 3) := by decide +kernel
theorem dX7_passes_16 : decode cX7_passes 16 = .ok (.new 137, 3) := by decide +kernel
theorem dX7_passes_19 : decode cX7_passes 19 = .ok (.dup, 1) := by decide +kernel
theorem dX7_passes_20 : decode cX7_passes 20 = .ok (.ldc 139, 2) := by decide +kernel
theorem dX7_passes_22 : decode cX7_passes 22 = .ok (.invokespecial 141, 3) := by decide +kernel
theorem dX7_passes_25 : decode cX7_passes 25 = .ok (.athrow, 1) := by decide +kernel
theorem dX7_passes_26 : decode cX7_passes 26 = .ok (.aload_n 0, 1) := by decide +kernel
theorem dX7_passes_27 : decode cX7_passes 27 = .ok (.getfield 10, 3) := by decide +kernel
theorem dX7_passes_30 : decode cX7_passes 30 = .ok (.getfield 72, 3) := by decide +kernel
theorem dX7_passes_33 : decode cX7_passes 33 = .ok (.iload_n 1, 1) := by decide +kernel
theorem dX7_passes_34 : decode cX7_passes 34 = .ok (.aaload, 1) := by decide +kernel
theorem dX7_passes_35 : decode cX7_passes 35 = .ok (.astore 4, 2) := by decide +kernel
theorem dX7_passes_37 : decode cX7_passes 37 = .ok (.aload 4, 2) := by decide +kernel
theorem dX7_passes_39 : decode cX7_passes 39 = .ok (.getfield 76, 3) := by decide +kernel
theorem dX7_passes_42 : decode cX7_passes 42 = .ok (.iload_n 2, 1) := by decide +kernel
theorem dX7_passes_43 : decode cX7_passes 43 = .ok (.invokevirtual 109, 3) := by decide +kernel
theorem dX7_passes_46 : decode cX7_passes 46 = .ok (.ifCond .ne 30, 3) := by decide +kernel
theorem dX7_passes_49 : decode cX7_passes 49 = .ok (.aload 4, 2) := by decide +kernel
theorem dX7_passes_51 : decode cX7_passes 51 = .ok (.aload 4, 2) := by decide +kernel
theorem dX7_passes_53 : decode cX7_passes 53 = .ok (.getfield 76, 3) := by decide +kernel
theorem dX7_passes_56 : decode cX7_passes 56 = .ok (.iload_n 2, 1) := by decide +kernel
theorem dX7_passes_57 : decode cX7_passes 57 = .ok (.invokevirtual 142, 3) := by decide +kernel
theorem dX7_passes_60 : decode cX7_passes 60 = .ok (.aload 4, 2) := by decide +kernel
theorem dX7_passes_62 : decode cX7_passes 62 = .ok (.getfield 76, 3) := by decide +kernel
theorem dX7_passes_65 : decode cX7_passes 65 = .ok (.iload_n 2, 1) := by decide +kernel
theorem dX7_passes_66 : decode cX7_passes 66 = .ok (.invokevirtual 145, 3) := by decide +kernel
theorem dX7_passes_69 : decode cX7_passes 69 = .ok (.iload_n 3, 1) := by decide +kernel
theorem dX7_passes_70 : decode cX7_passes 70 = .ok (.invokevirtual 148, 3) := by decide +kernel
theorem dX7_passes_73 : decode cX7_passes 73 = .ok (.ifCond .eq 7, 3) := by decide +kernel
theorem dX7_passes_76 : decode cX7_passes 76 = .ok (.iconst 1, 1) := by decide +kernel
theorem dX7_passes_77 : decode cX7_passes 77 = .ok (.goto 4, 3) := by decide +kernel
theorem dX7_passes_80 : decode cX7_passes 80 = .ok (.iconst 0, 1) := by decide +kernel
theorem dX7_passes_81 : decode cX7_passes 81 = .ok (.ireturn, 1) := by decide +kernel
set_option maxRecDepth 20000 in
theorem ggX7_wouldFail_X7_demandPlace : GoodIn wsX7_wouldFail wsX7_demandPlace := goodIn_ca (goodIn_r _ [5, 6, 7, 8, 9, 10, 11, 12, 4, 13, 14, 15, 16, 17, 18, 19, 169, 170, 171, 172, 173, 174, 175, 176, 177, 178, 179, 180, 181, 182, 183, 184, 185, 186, 187, 188, 189, 190, 191, 192, 193, 194, 195, 196, 197, 198] (by decide +kernel) (by decide +kernel)) (goodIn_sub (fun _ h => List.mem_cons_of_mem _ (List.mem_append_left _ (List.mem_append_left _ (List.mem_append_right _ h)))) (by decide +kernel))
set_option maxRecDepth 20000 in
theorem gX7_wouldFail_X7_demandPlace : GoodIn wsX7_wouldFail (wsV RX7 106 RX7 yX7_demandPlace wsX7_demandPlace) := goodIn_app (goodIn_of _ (by decide +kernel)) ggX7_wouldFail_X7_demandPlace
set_option maxRecDepth 20000 in
theorem ggX7_wouldFail_X7_demandInspector : GoodIn wsX7_wouldFail wsX7_demandInspector := goodIn_ca (goodIn_r _ [23, 24, 25, 8, 26, 27, 169, 170, 171, 172, 173, 174, 175, 176, 177, 178, 179, 180, 181, 182, 183, 184, 185, 186, 187, 188, 189, 190, 199, 200] (by decide +kernel) (by decide +kernel)) (goodIn_sub (fun _ h => List.mem_cons_of_mem _ (List.mem_append_left _ (List.mem_append_right _ h))) (by decide +kernel))
set_option maxRecDepth 20000 in
theorem gX7_wouldFail_X7_demandInspector : GoodIn wsX7_wouldFail (wsV RX7 152 RX7 yX7_demandInspector wsX7_demandInspector) := goodIn_app (goodIn_of _ (by decide +kernel)) ggX7_wouldFail_X7_demandInspector
set_option maxRecDepth 20000 in
theorem ggX7_wouldFail_X7_failBackwards : GoodIn wsX7_wouldFail wsX7_failBackwards := goodIn_ca (goodIn_r _ [31, 8, 9, 10, 26, 32, 33, 34, 17, 35, 36, 37, 38, 39, 19, 40, 41, 42, 43, 44, 45, 46, 47, 48, 49, 50, 51, 52, 53, 54, 55, 56, 57, 58, 59, 60, 61, 62, 63, 64, 65, 66, 67, 68, 69, 70, 71, 72, 73, 74, 75, 76, 77, 78, 169, 170, 171, 172, 173, 174, 175, 176, 177, 178, 179, 180, 181, 182, 183, 184, 185, 186, 187, 188, 189, 190, 191, 192, 193, 194, 195, 196, 197, 198, 199, 200] (by decide +kernel) (by decide +kernel)) (goodIn_sub (fun _ h => List.mem_cons_of_mem _ (List.mem_append_right _ h)) (by decide +kernel))
set_option maxRecDepth 20000 in
theorem gX7_wouldFail_X7_failBackwards : GoodIn wsX7_wouldFail (wsV RX7 155 RX7 yX7_failBackwards wsX7_failBackwards) := goodIn_app (goodIn_of _ (by decide +kernel)) ggX7_wouldFail_X7_failBackwards
set_option maxRecDepth 20000 in
theorem ggX7_wouldFail_X7_failInThought : GoodIn wsX7_wouldFail wsX7_failInThought := goodIn_ca (goodIn_r _ [82, 83, 8, 9, 10, 84, 85, 86, 87, 88, 89, 90, 91, 92, 93, 94, 95, 96, 97, 98, 99, 100, 101, 102, 71, 103, 104, 73, 74, 75, 105, 106, 107, 108, 109, 17, 110, 19, 40, 111, 112, 113, 114, 115, 116, 117, 118, 52, 119, 54, 59, 120, 121, 122, 123, 124, 125, 126, 127, 128, 129, 130, 50, 51, 53, 55, 56, 57, 58, 131, 33, 34, 35, 36, 37, 38, 39, 132, 133, 134, 135, 136, 137, 138, 139, 140, 141, 142, 64, 65, 66, 67, 143, 144, 145, 146, 147, 148, 149, 150, 42, 43, 44, 151, 46, 47, 48, 152, 61, 62, 63, 153, 154, 155, 156, 69, 70, 72, 157, 77, 78, 158, 159, 160, 161, 162, 163, 164, 165, 166, 167, 168, 169, 170, 171, 172, 173, 174, 175, 176, 177, 178, 179, 180, 181, 182, 183, 184, 185, 186, 187, 188, 189, 190, 191, 192, 193, 194, 195, 196, 197, 198, 199, 200] (by decide +kernel) (by decide +kernel)) (goodIn_sub (fun _ h => List.mem_cons_of_mem _ (List.mem_append_right _ h)) (by decide +kernel))
set_option maxRecDepth 20000 in
theorem gX7_wouldFail_X7_failInThought : GoodIn wsX7_wouldFail (wsV RX7 158 RX7 yX7_failInThought wsX7_failInThought) := goodIn_app (goodIn_of _ (by decide +kernel)) ggX7_wouldFail_X7_failInThought
theorem dX7_wouldFail_0 : decode cX7_wouldFail 0 = .ok (.aload_n 0, 1) := by decide +kernel
theorem dX7_wouldFail_1 : decode cX7_wouldFail 1 = .ok (.iload_n 1, 1) := by decide +kernel
theorem dX7_wouldFail_2 : decode cX7_wouldFail 2 = .ok (.iload_n 2, 1) := by decide +kernel
theorem dX7_wouldFail_3 : decode cX7_wouldFail 3 = .ok (.invokevirtual 106, 3) := by decide +kernel
theorem dX7_wouldFail_6 : decode cX7_wouldFail 6 = .ok (.aload_n 0, 1) := by decide +kernel
theorem dX7_wouldFail_7 : decode cX7_wouldFail 7 = .ok (.invokevirtual 152, 3) := by decide +kernel
theorem dX7_wouldFail_10 : decode cX7_wouldFail 10 = .ok (.iload_n 3, 1) := by decide +kernel
theorem dX7_wouldFail_11 : decode cX7_wouldFail 11 = .ok (.ifCond .eq 12, 3) := by decide +kernel
theorem dX7_wouldFail_14 : decode cX7_wouldFail 14 = .ok (.aload_n 0, 1) := by decide +kernel
theorem dX7_wouldFail_15 : decode cX7_wouldFail 15 = .ok (.iload_n 1, 1) := by decide +kernel
theorem dX7_wouldFail_16 : decode cX7_wouldFail 16 = .ok (.iload_n 2, 1) := by decide +kernel
theorem dX7_wouldFail_17 : decode cX7_wouldFail 17 = .ok (.invokevirtual 155, 3) := by decide +kernel
theorem dX7_wouldFail_20 : decode cX7_wouldFail 20 = .ok (.goto 9, 3) := by decide +kernel
theorem dX7_wouldFail_23 : decode cX7_wouldFail 23 = .ok (.aload_n 0, 1) := by decide +kernel
theorem dX7_wouldFail_24 : decode cX7_wouldFail 24 = .ok (.iload_n 1, 1) := by decide +kernel
theorem dX7_wouldFail_25 : decode cX7_wouldFail 25 = .ok (.iload_n 2, 1) := by decide +kernel
theorem dX7_wouldFail_26 : decode cX7_wouldFail 26 = .ok (.invokevirtual 158, 3) := by decide +kernel
theorem dX7_wouldFail_29 : decode cX7_wouldFail 29 = .ok (.ireturn, 1) := by decide +kernel
set_option maxRecDepth 20000 in
theorem ggX7_wouldStamp_X7_demandBelt : GoodIn wsX7_wouldStamp wsX7_demandBelt := goodIn_ca (goodIn_r _ [11, 12, 13, 14, 15, 10, 16] (by decide +kernel) (by decide +kernel)) (goodIn_sub (fun _ h => List.mem_cons_of_mem _ (List.mem_append_left _ (List.mem_append_left _ (List.mem_append_right _ h)))) (by decide +kernel))
set_option maxRecDepth 20000 in
theorem gX7_wouldStamp_X7_demandBelt : GoodIn wsX7_wouldStamp (wsV RX7 64 RX7 yX7_demandBelt wsX7_demandBelt) := goodIn_app (goodIn_of _ (by decide +kernel)) ggX7_wouldStamp_X7_demandBelt
set_option maxRecDepth 20000 in
theorem ggX7_wouldStamp_X7_demandInspector : GoodIn wsX7_wouldStamp wsX7_demandInspector := goodIn_ca (goodIn_r _ [20, 21, 22, 2, 23, 24, 151, 152, 153, 154, 155, 156, 157, 158, 159, 160, 161, 162, 163, 164, 165, 166, 167, 168, 169, 170, 171, 172, 181, 182] (by decide +kernel) (by decide +kernel)) (goodIn_sub (fun _ h => List.mem_cons_of_mem _ (List.mem_append_left _ (List.mem_append_right _ h))) (by decide +kernel))
set_option maxRecDepth 20000 in
theorem gX7_wouldStamp_X7_demandInspector : GoodIn wsX7_wouldStamp (wsV RX7 152 RX7 yX7_demandInspector wsX7_demandInspector) := goodIn_app (goodIn_of _ (by decide +kernel)) ggX7_wouldStamp_X7_demandInspector
set_option maxRecDepth 20000 in
theorem ggX7_wouldStamp_X5_copyFrom : GoodIn wsX7_wouldStamp wsX5_copyFrom := goodIn_r _ [29, 30, 31, 32, 33, 34, 35, 36, 37, 38, 39, 40, 41, 42, 43, 44, 45, 46, 47, 48, 49, 50, 51, 52, 53, 54, 55, 56, 57, 58, 59, 60, 61, 62, 63, 64, 65, 66, 67, 68, 69, 70, 71, 162, 163, 164, 165, 166, 167, 168, 169, 170, 171, 172, 173, 174, 175, 176, 177, 178, 179, 180, 181, 182] (by decide +kernel) (by decide +kernel)
set_option maxRecDepth 20000 in
theorem gX7_wouldStamp_X5_copyFrom : GoodIn wsX7_wouldStamp (wsV RX7 161 RX5 yX5_copyFrom wsX5_copyFrom) := goodIn_app (goodIn_of _ (by decide +kernel)) ggX7_wouldStamp_X5_copyFrom
set_option maxRecDepth 20000 in
theorem ggX7_wouldStamp_X5_inspectFront : GoodIn wsX7_wouldStamp wsX5_inspectFront := goodIn_ca (goodIn_r _ [75, 30, 32, 76, 77, 78, 79, 67, 80, 69, 81, 82, 83, 84, 70, 85, 86, 87, 55, 88, 89, 90, 91, 92, 57, 58, 93, 94, 95, 96, 97, 98, 99, 100, 101, 102, 103, 104, 105, 106, 107, 108, 109, 110, 28, 111, 112, 113, 114, 115, 116, 117, 118, 119, 120, 121, 122, 123, 124, 125, 126, 127, 128, 129, 130, 131, 132, 44, 133, 47, 48, 49, 134, 135, 136, 137, 138, 139, 140, 36, 31, 141, 37, 142, 143, 144, 145, 146, 147, 148, 149, 150, 59, 60, 61, 62, 162, 163, 164, 165, 166, 167, 168, 169, 170, 171, 172, 173, 174, 175, 176, 177, 178, 181, 182, 179, 180] (by decide +kernel) (by decide +kernel)) (goodIn_sub (fun _ h => List.mem_cons_of_mem _ (List.mem_append_right _ h)) (by decide +kernel))
set_option maxRecDepth 20000 in
theorem gX7_wouldStamp_X5_inspectFront : GoodIn wsX7_wouldStamp (wsV RX7 165 RX5 yX5_inspectFront wsX5_inspectFront) := goodIn_app (goodIn_of _ (by decide +kernel)) ggX7_wouldStamp_X5_inspectFront
theorem dX7_wouldStamp_0 : decode cX7_wouldStamp 0 = .ok (.aload_n 0, 1) := by decide +kernel
theorem dX7_wouldStamp_1 : decode cX7_wouldStamp 1 = .ok (.iload_n 1, 1) := by decide +kernel
theorem dX7_wouldStamp_2 : decode cX7_wouldStamp 2 = .ok (.invokevirtual 64, 3) := by decide +kernel
theorem dX7_wouldStamp_5 : decode cX7_wouldStamp 5 = .ok (.aload_n 0, 1) := by decide +kernel
theorem dX7_wouldStamp_6 : decode cX7_wouldStamp 6 = .ok (.invokevirtual 152, 3) := by decide +kernel
theorem dX7_wouldStamp_9 : decode cX7_wouldStamp 9 = .ok (.aload_n 0, 1) := by decide +kernel
theorem dX7_wouldStamp_10 : decode cX7_wouldStamp 10 = .ok (.getfield 16, 3) := by decide +kernel
theorem dX7_wouldStamp_13 : decode cX7_wouldStamp 13 = .ok (.aload_n 0, 1) := by decide +kernel
theorem dX7_wouldStamp_14 : decode cX7_wouldStamp 14 = .ok (.getfield 10, 3) := by decide +kernel
theorem dX7_wouldStamp_17 : decode cX7_wouldStamp 17 = .ok (.invokevirtual 161, 3) := by decide +kernel
theorem dX7_wouldStamp_20 : decode cX7_wouldStamp 20 = .ok (.aload_n 0, 1) := by decide +kernel
theorem dX7_wouldStamp_21 : decode cX7_wouldStamp 21 = .ok (.getfield 10, 3) := by decide +kernel
theorem dX7_wouldStamp_24 : decode cX7_wouldStamp 24 = .ok (.getfield 72, 3) := by decide +kernel
theorem dX7_wouldStamp_27 : decode cX7_wouldStamp 27 = .ok (.iload_n 1, 1) := by decide +kernel
theorem dX7_wouldStamp_28 : decode cX7_wouldStamp 28 = .ok (.aaload, 1) := by decide +kernel
theorem dX7_wouldStamp_29 : decode cX7_wouldStamp 29 = .ok (.getfield 76, 3) := by decide +kernel
theorem dX7_wouldStamp_32 : decode cX7_wouldStamp 32 = .ok (.getfield 82, 3) := by decide +kernel
theorem dX7_wouldStamp_35 : decode cX7_wouldStamp 35 = .ok (.istore_n 2, 1) := by decide +kernel
theorem dX7_wouldStamp_36 : decode cX7_wouldStamp 36 = .ok (.iconst 0, 1) := by decide +kernel
theorem dX7_wouldStamp_37 : decode cX7_wouldStamp 37 = .ok (.istore_n 3, 1) := by decide +kernel
theorem dX7_wouldStamp_38 : decode cX7_wouldStamp 38 = .ok (.iload_n 3, 1) := by decide +kernel
theorem dX7_wouldStamp_39 : decode cX7_wouldStamp 39 = .ok (.iload_n 2, 1) := by decide +kernel
theorem dX7_wouldStamp_40 : decode cX7_wouldStamp 40 = .ok (.if_icmp .ge 18, 3) := by decide +kernel
theorem dX7_wouldStamp_43 : decode cX7_wouldStamp 43 = .ok (.aload_n 0, 1) := by decide +kernel
theorem dX7_wouldStamp_44 : decode cX7_wouldStamp 44 = .ok (.getfield 16, 3) := by decide +kernel
theorem dX7_wouldStamp_47 : decode cX7_wouldStamp 47 = .ok (.iload_n 1, 1) := by decide +kernel
theorem dX7_wouldStamp_48 : decode cX7_wouldStamp 48 = .ok (.invokevirtual 165, 3) := by decide +kernel
theorem dX7_wouldStamp_51 : decode cX7_wouldStamp 51 = .ok (.pop, 1) := by decide +kernel
theorem dX7_wouldStamp_52 : decode cX7_wouldStamp 52 = .ok (.iinc 3 1, 3) := by decide +kernel
theorem dX7_wouldStamp_55 : decode cX7_wouldStamp 55 = .ok (.goto (-17), 3) := by decide +kernel
theorem dX7_wouldStamp_58 : decode cX7_wouldStamp 58 = .ok (.aload_n 0, 1) := by decide +kernel
theorem dX7_wouldStamp_59 : decode cX7_wouldStamp 59 = .ok (.getfield 16, 3) := by decide +kernel
theorem dX7_wouldStamp_62 : decode cX7_wouldStamp 62 = .ok (.getfield 72, 3) := by decide +kernel
theorem dX7_wouldStamp_65 : decode cX7_wouldStamp 65 = .ok (.iload_n 1, 1) := by decide +kernel
theorem dX7_wouldStamp_66 : decode cX7_wouldStamp 66 = .ok (.aaload, 1) := by decide +kernel
theorem dX7_wouldStamp_67 : decode cX7_wouldStamp 67 = .ok (.getfield 103, 3) := by decide +kernel
theorem dX7_wouldStamp_70 : decode cX7_wouldStamp 70 = .ok (.aload_n 0, 1) := by decide +kernel
theorem dX7_wouldStamp_71 : decode cX7_wouldStamp 71 = .ok (.getfield 10, 3) := by decide +kernel
theorem dX7_wouldStamp_74 : decode cX7_wouldStamp 74 = .ok (.getfield 72, 3) := by decide +kernel
theorem dX7_wouldStamp_77 : decode cX7_wouldStamp 77 = .ok (.iload_n 1, 1) := by decide +kernel
theorem dX7_wouldStamp_78 : decode cX7_wouldStamp 78 = .ok (.aaload, 1) := by decide +kernel
theorem dX7_wouldStamp_79 : decode cX7_wouldStamp 79 = .ok (.getfield 103, 3) := by decide +kernel
theorem dX7_wouldStamp_82 : decode cX7_wouldStamp 82 = .ok (.isub, 1) := by decide +kernel
theorem dX7_wouldStamp_83 : decode cX7_wouldStamp 83 = .ok (.ireturn, 1) := by decide +kernel
set_option maxRecDepth 20000 in
theorem ggX7_next_X7_demandInspector : GoodIn wsX7_next wsX7_demandInspector := goodIn_ca (goodIn_r _ [7, 8, 9, 1, 2, 10, 22, 23, 24, 25, 26, 27, 28, 29, 30, 31, 32, 33, 34, 35, 36, 37, 38, 39, 40, 41, 42, 43, 44, 45] (by decide +kernel) (by decide +kernel)) (goodIn_sub (fun _ h => List.mem_cons_of_mem _ (List.mem_append_left _ (List.mem_append_right _ h))) (by decide +kernel))
set_option maxRecDepth 20000 in
theorem gX7_next_X7_demandInspector : GoodIn wsX7_next (wsV RX7 152 RX7 yX7_demandInspector wsX7_demandInspector) := goodIn_app (goodIn_of _ (by decide +kernel)) ggX7_next_X7_demandInspector
set_option maxRecDepth 20000 in
theorem ggX7_next_X1_freshAt : GoodIn wsX7_next wsX1_freshAt := goodIn_ca (goodIn_r _ [15, 16, 17, 18, 19, 14, 20, 21, 44, 45] (by decide +kernel) (by decide +kernel)) (goodIn_sub (fun _ h => List.mem_cons_of_mem _ (List.mem_append_right _ h)) (by decide +kernel))
set_option maxRecDepth 20000 in
theorem gX7_next_X1_freshAt : GoodIn wsX7_next (wsV RX7 168 RX1 yX1_freshAt wsX1_freshAt) := goodIn_app (goodIn_of _ (by decide +kernel)) ggX7_next_X1_freshAt
theorem dX7_next_0 : decode cX7_next 0 = .ok (.aload_n 0, 1) := by decide +kernel
theorem dX7_next_1 : decode cX7_next 1 = .ok (.invokevirtual 152, 3) := by decide +kernel
theorem dX7_next_4 : decode cX7_next 4 = .ok (.aload_n 0, 1) := by decide +kernel
theorem dX7_next_5 : decode cX7_next 5 = .ok (.getfield 10, 3) := by decide +kernel
theorem dX7_next_8 : decode cX7_next 8 = .ok (.getfield 117, 3) := by decide +kernel
theorem dX7_next_11 : decode cX7_next 11 = .ok (.iconst 0, 1) := by decide +kernel
theorem dX7_next_12 : decode cX7_next 12 = .ok (.invokevirtual 168, 3) := by decide +kernel
theorem dX7_next_15 : decode cX7_next 15 = .ok (.ireturn, 1) := by decide +kernel
set_option maxRecDepth 20000 in
theorem ggX7_leastGrey_X7_demandBelt : GoodIn wsX7_leastGrey wsX7_demandBelt := goodIn_ca (goodIn_r _ [13, 14, 15, 16, 17, 12, 18] (by decide +kernel) (by decide +kernel)) (goodIn_sub (fun _ h => List.mem_cons_of_mem _ (List.mem_append_left _ (List.mem_append_right _ h))) (by decide +kernel))
set_option maxRecDepth 20000 in
theorem gX7_leastGrey_X7_demandBelt : GoodIn wsX7_leastGrey (wsV RX7 64 RX7 yX7_demandBelt wsX7_demandBelt) := goodIn_app (goodIn_of _ (by decide +kernel)) ggX7_leastGrey_X7_demandBelt
set_option maxRecDepth 20000 in
theorem ggX7_leastGrey_X6_isBlank : GoodIn wsX7_leastGrey wsX6_isBlank := goodIn_ca (goodIn_r _ [23, 24, 25, 26, 22, 27, 28, 29, 62, 63] (by decide +kernel) (by decide +kernel)) (goodIn_sub (fun _ h => List.mem_cons_of_mem _ (List.mem_append_right _ h)) (by decide +kernel))
set_option maxRecDepth 20000 in
theorem gX7_leastGrey_X6_isBlank : GoodIn wsX7_leastGrey (wsV RX7 109 RX6 yX6_isBlank wsX6_isBlank) := goodIn_app (goodIn_of _ (by decide +kernel)) ggX7_leastGrey_X6_isBlank
set_option maxRecDepth 20000 in
theorem ggX7_leastGrey_X6_grey : GoodIn wsX7_leastGrey wsX6_grey := goodIn_ca (goodIn_r _ [33, 24, 25, 26, 22, 27, 28, 29, 62, 63] (by decide +kernel) (by decide +kernel)) (goodIn_sub (fun _ h => List.mem_cons_of_mem _ (List.mem_append_right _ h)) (by decide +kernel))
set_option maxRecDepth 20000 in
theorem gX7_leastGrey_X6_grey : GoodIn wsX7_leastGrey (wsV RX7 142 RX6 yX6_grey wsX6_grey) := goodIn_app (goodIn_of _ (by decide +kernel)) ggX7_leastGrey_X6_grey
theorem dX7_leastGrey_0 : decode cX7_leastGrey 0 = .ok (.aload_n 0, 1) := by decide +kernel
theorem dX7_leastGrey_1 : decode cX7_leastGrey 1 = .ok (.iload_n 1, 1) := by decide +kernel
theorem dX7_leastGrey_2 : decode cX7_leastGrey 2 = .ok (.invokevirtual 64, 3) := by decide +kernel
theorem dX7_leastGrey_5 : decode cX7_leastGrey 5 = .ok (.aload_n 0, 1) := by decide +kernel
theorem dX7_leastGrey_6 : decode cX7_leastGrey 6 = .ok (.getfield 10, 3) := by decide +kernel
theorem dX7_leastGrey_9 : decode cX7_leastGrey 9 = .ok (.getfield 72, 3) := by decide +kernel
theorem dX7_leastGrey_12 : decode cX7_leastGrey 12 = .ok (.iload_n 1, 1) := by decide +kernel
theorem dX7_leastGrey_13 : decode cX7_leastGrey 13 = .ok (.aaload, 1) := by decide +kernel
theorem dX7_leastGrey_14 : decode cX7_leastGrey 14 = .ok (.getfield 76, 3) := by decide +kernel
theorem dX7_leastGrey_17 : decode cX7_leastGrey 17 = .ok (.astore_n 2, 1) := by decide +kernel
theorem dX7_leastGrey_18 : decode cX7_leastGrey 18 = .ok (.bipush 9, 2) := by decide +kernel
theorem dX7_leastGrey_20 : decode cX7_leastGrey 20 = .ok (.istore_n 3, 1) := by decide +kernel
theorem dX7_leastGrey_21 : decode cX7_leastGrey 21 = .ok (.iconst 0, 1) := by decide +kernel
theorem dX7_leastGrey_22 : decode cX7_leastGrey 22 = .ok (.istore 4, 2) := by decide +kernel
theorem dX7_leastGrey_24 : decode cX7_leastGrey 24 = .ok (.iload 4, 2) := by decide +kernel
theorem dX7_leastGrey_26 : decode cX7_leastGrey 26 = .ok (.aload_n 2, 1) := by decide +kernel
theorem dX7_leastGrey_27 : decode cX7_leastGrey 27 = .ok (.getfield 82, 3) := by decide +kernel
theorem dX7_leastGrey_30 : decode cX7_leastGrey 30 = .ok (.if_icmp .ge 29, 3) := by decide +kernel
theorem dX7_leastGrey_33 : decode cX7_leastGrey 33 = .ok (.aload_n 2, 1) := by decide +kernel
theorem dX7_leastGrey_34 : decode cX7_leastGrey 34 = .ok (.iload 4, 2) := by decide +kernel
theorem dX7_leastGrey_36 : decode cX7_leastGrey 36 = .ok (.invokevirtual 109, 3) := by decide +kernel
theorem dX7_leastGrey_39 : decode cX7_leastGrey 39 = .ok (.ifCond .ne 14, 3) := by decide +kernel
theorem dX7_leastGrey_42 : decode cX7_leastGrey 42 = .ok (.iload_n 3, 1) := by decide +kernel
theorem dX7_leastGrey_43 : decode cX7_leastGrey 43 = .ok (.aload_n 2, 1) := by decide +kernel
theorem dX7_leastGrey_44 : decode cX7_leastGrey 44 = .ok (.iload 4, 2) := by decide +kernel
theorem dX7_leastGrey_46 : decode cX7_leastGrey 46 = .ok (.invokevirtual 142, 3) := by decide +kernel
theorem dX7_leastGrey_49 : decode cX7_leastGrey 49 = .ok (.invokestatic 171, 3) := by decide +kernel
theorem dX7_leastGrey_52 : decode cX7_leastGrey 52 = .ok (.istore_n 3, 1) := by decide +kernel
theorem dX7_leastGrey_53 : decode cX7_leastGrey 53 = .ok (.iinc 4 1, 3) := by decide +kernel
theorem dX7_leastGrey_56 : decode cX7_leastGrey 56 = .ok (.goto (-32), 3) := by decide +kernel
theorem dX7_leastGrey_59 : decode cX7_leastGrey 59 = .ok (.iload_n 3, 1) := by decide +kernel
theorem dX7_leastGrey_60 : decode cX7_leastGrey 60 = .ok (.ireturn, 1) := by decide +kernel
set_option maxRecDepth 20000 in
theorem ggX7_rejectOf_X7_demandReject : GoodIn wsX7_rejectOf wsX7_demandReject := goodIn_ca (goodIn_r _ [7, 8, 9, 1, 2, 10, 11, 12, 13, 14, 15, 55, 56, 57, 58, 59, 60, 61, 62, 63, 64, 65, 66, 67, 68, 69, 70, 71, 72, 73, 74, 75, 76, 77, 78] (by decide +kernel) (by decide +kernel)) (goodIn_sub (fun _ h => List.mem_cons_of_mem _ (List.mem_append_left _ (List.mem_append_left _ (List.mem_append_right _ h)))) (by decide +kernel))
set_option maxRecDepth 20000 in
theorem gX7_rejectOf_X7_demandReject : GoodIn wsX7_rejectOf (wsV RX7 176 RX7 yX7_demandReject wsX7_demandReject) := goodIn_app (goodIn_of _ (by decide +kernel)) ggX7_rejectOf_X7_demandReject
set_option maxRecDepth 20000 in
theorem ggX7_rejectOf_X7_demandWhat : GoodIn wsX7_rejectOf wsX7_demandWhat := goodIn_ca (goodIn_r _ [18, 19, 20] (by decide +kernel) (by decide +kernel)) (goodIn_sub (fun _ h => List.mem_cons_of_mem _ (List.mem_append_left _ (List.mem_append_right _ h))) (by decide +kernel))
set_option maxRecDepth 20000 in
theorem gX7_rejectOf_X7_demandWhat : GoodIn wsX7_rejectOf (va_wsS RX7 68 yX7_demandWhat wsX7_demandWhat) := goodIn_app (goodIn_of _ (by decide +kernel)) ggX7_rejectOf_X7_demandWhat
set_option maxRecDepth 20000 in
theorem ggX7_rejectOf_X6_grey : GoodIn wsX7_rejectOf wsX6_grey := goodIn_ca (goodIn_r _ [24, 25, 26, 27, 13, 28, 15, 29, 77, 78] (by decide +kernel) (by decide +kernel)) (goodIn_sub (fun _ h => List.mem_cons_of_mem _ (List.mem_append_right _ h)) (by decide +kernel))
set_option maxRecDepth 20000 in
theorem gX7_rejectOf_X6_grey : GoodIn wsX7_rejectOf (wsV RX7 142 RX6 yX6_grey wsX6_grey) := goodIn_app (goodIn_of _ (by decide +kernel)) ggX7_rejectOf_X6_grey
set_option maxRecDepth 20000 in
theorem ggX7_rejectOf_X6_alarm : GoodIn wsX7_rejectOf wsX6_alarm := goodIn_ca (goodIn_r _ [33, 25, 26, 27, 13, 28, 15, 29, 77, 78] (by decide +kernel) (by decide +kernel)) (goodIn_sub (fun _ h => List.mem_cons_of_mem _ (List.mem_append_right _ h)) (by decide +kernel))
set_option maxRecDepth 20000 in
theorem gX7_rejectOf_X6_alarm : GoodIn wsX7_rejectOf (wsV RX7 145 RX6 yX6_alarm wsX6_alarm) := goodIn_app (goodIn_of _ (by decide +kernel)) ggX7_rejectOf_X6_alarm
set_option maxRecDepth 20000 in
theorem ggX7_rejectOf_X6_number : GoodIn wsX7_rejectOf wsX6_number := goodIn_ca (goodIn_r _ [28, 15, 29, 77, 78] (by decide +kernel) (by decide +kernel)) (goodIn_sub (fun _ h => List.mem_cons_of_mem _ (List.mem_append_right _ h)) (by decide +kernel))
set_option maxRecDepth 20000 in
theorem gX7_rejectOf_X6_number : GoodIn wsX7_rejectOf (wsV RX7 113 RX6 yX6_number wsX6_number) := goodIn_app (goodIn_of _ (by decide +kernel)) ggX7_rejectOf_X6_number
set_option maxRecDepth 20000 in
theorem ggX7_rejectOf_X5_priceOf : GoodIn wsX7_rejectOf wsX5_priceOf := goodIn_ca (goodIn_r _ [39, 40, 41, 42, 43, 44, 45, 46, 47, 38, 48, 49, 50, 26, 27, 13, 28, 15, 29, 66, 67, 68, 69, 70, 71, 72, 73, 74, 75, 76, 77, 78] (by decide +kernel) (by decide +kernel)) (goodIn_sub (fun _ h => List.mem_cons_of_mem _ (List.mem_append_right _ h)) (by decide +kernel))
set_option maxRecDepth 20000 in
theorem gX7_rejectOf_X5_priceOf : GoodIn wsX7_rejectOf (wsV RX7 182 RX5 yX5_priceOf wsX5_priceOf) := goodIn_app (goodIn_of _ (by decide +kernel)) ggX7_rejectOf_X5_priceOf
set_option maxRecDepth 20000 in
theorem ggX7_rejectOf_X5_repairCost : GoodIn wsX7_rejectOf wsX5_repairCost := goodIn_ca (goodIn_r _ [54, 49, 50, 26, 27, 13, 28, 15, 29, 66, 67, 68, 69, 70, 71, 72, 73, 74, 75, 76, 77, 78] (by decide +kernel) (by decide +kernel)) (goodIn_sub (fun _ h => List.mem_cons_of_mem _ (List.mem_append_right _ h)) (by decide +kernel))
set_option maxRecDepth 20000 in
theorem gX7_rejectOf_X5_repairCost : GoodIn wsX7_rejectOf (wsV RX7 185 RX5 yX5_repairCost wsX5_repairCost) := goodIn_app (goodIn_of _ (by decide +kernel)) ggX7_rejectOf_X5_repairCost
theorem dX7_rejectOf_0 : decode cX7_rejectOf 0 = .ok (.aload_n 0, 1) := by decide +kernel
theorem dX7_rejectOf_1 : decode cX7_rejectOf 1 = .ok (.iload_n 1, 1) := by decide +kernel
theorem dX7_rejectOf_2 : decode cX7_rejectOf 2 = .ok (.invokevirtual 176, 3) := by decide +kernel
theorem dX7_rejectOf_5 : decode cX7_rejectOf 5 = .ok (.iload_n 2, 1) := by decide +kernel
theorem dX7_rejectOf_6 : decode cX7_rejectOf 6 = .ok (.iconst 5, 1) := by decide +kernel
theorem dX7_rejectOf_7 : decode cX7_rejectOf 7 = .ok (.invokestatic 68, 3) := by decide +kernel
theorem dX7_rejectOf_10 : decode cX7_rejectOf 10 = .ok (.iload_n 2, 1) := by decide +kernel
theorem dX7_rejectOf_11 : decode cX7_rejectOf 11 = .ok (.tableswitch 92 0 4 #[33, 45, 57, 70, 83], 33) := by decide +kernel
theorem dX7_rejectOf_44 : decode cX7_rejectOf 44 = .ok (.aload_n 0, 1) := by decide +kernel
theorem dX7_rejectOf_45 : decode cX7_rejectOf 45 = .ok (.getfield 10, 3) := by decide +kernel
theorem dX7_rejectOf_48 : decode cX7_rejectOf 48 = .ok (.getfield 179, 3) := by decide +kernel
theorem dX7_rejectOf_51 : decode cX7_rejectOf 51 = .ok (.iload_n 1, 1) := by decide +kernel
theorem dX7_rejectOf_52 : decode cX7_rejectOf 52 = .ok (.invokevirtual 142, 3) := by decide +kernel
theorem dX7_rejectOf_55 : decode cX7_rejectOf 55 = .ok (.ireturn, 1) := by decide +kernel
theorem dX7_rejectOf_56 : decode cX7_rejectOf 56 = .ok (.aload_n 0, 1) := by decide +kernel
theorem dX7_rejectOf_57 : decode cX7_rejectOf 57 = .ok (.getfield 10, 3) := by decide +kernel
theorem dX7_rejectOf_60 : decode cX7_rejectOf 60 = .ok (.getfield 179, 3) := by decide +kernel
theorem dX7_rejectOf_63 : decode cX7_rejectOf 63 = .ok (.iload_n 1, 1) := by decide +kernel
theorem dX7_rejectOf_64 : decode cX7_rejectOf 64 = .ok (.invokevirtual 145, 3) := by decide +kernel
theorem dX7_rejectOf_67 : decode cX7_rejectOf 67 = .ok (.ireturn, 1) := by decide +kernel
theorem dX7_rejectOf_68 : decode cX7_rejectOf 68 = .ok (.aload_n 0, 1) := by decide +kernel
theorem dX7_rejectOf_69 : decode cX7_rejectOf 69 = .ok (.getfield 10, 3) := by decide +kernel
theorem dX7_rejectOf_72 : decode cX7_rejectOf 72 = .ok (.getfield 179, 3) := by decide +kernel
theorem dX7_rejectOf_75 : decode cX7_rejectOf 75 = .ok (.iload_n 1, 1) := by decide +kernel
theorem dX7_rejectOf_76 : decode cX7_rejectOf 76 = .ok (.iconst 2, 1) := by decide +kernel
theorem dX7_rejectOf_77 : decode cX7_rejectOf 77 = .ok (.invokevirtual 113, 3) := by decide +kernel
theorem dX7_rejectOf_80 : decode cX7_rejectOf 80 = .ok (.ireturn, 1) := by decide +kernel
theorem dX7_rejectOf_81 : decode cX7_rejectOf 81 = .ok (.aload_n 0, 1) := by decide +kernel
theorem dX7_rejectOf_82 : decode cX7_rejectOf 82 = .ok (.getfield 10, 3) := by decide +kernel
theorem dX7_rejectOf_85 : decode cX7_rejectOf 85 = .ok (.getfield 179, 3) := by decide +kernel
theorem dX7_rejectOf_88 : decode cX7_rejectOf 88 = .ok (.iload_n 1, 1) := by decide +kernel
theorem dX7_rejectOf_89 : decode cX7_rejectOf 89 = .ok (.iconst 3, 1) := by decide +kernel
theorem dX7_rejectOf_90 : decode cX7_rejectOf 90 = .ok (.invokevirtual 113, 3) := by decide +kernel
theorem dX7_rejectOf_93 : decode cX7_rejectOf 93 = .ok (.ireturn, 1) := by decide +kernel
theorem dX7_rejectOf_94 : decode cX7_rejectOf 94 = .ok (.aload_n 0, 1) := by decide +kernel
theorem dX7_rejectOf_95 : decode cX7_rejectOf 95 = .ok (.getfield 10, 3) := by decide +kernel
theorem dX7_rejectOf_98 : decode cX7_rejectOf 98 = .ok (.iload_n 1, 1) := by decide +kernel
theorem dX7_rejectOf_99 : decode cX7_rejectOf 99 = .ok (.invokevirtual 182, 3) := by decide +kernel
theorem dX7_rejectOf_102 : decode cX7_rejectOf 102 = .ok (.ireturn, 1) := by decide +kernel
theorem dX7_rejectOf_103 : decode cX7_rejectOf 103 = .ok (.aload_n 0, 1) := by decide +kernel
theorem dX7_rejectOf_104 : decode cX7_rejectOf 104 = .ok (.getfield 10, 3) := by decide +kernel
theorem dX7_rejectOf_107 : decode cX7_rejectOf 107 = .ok (.iload_n 1, 1) := by decide +kernel
theorem dX7_rejectOf_108 : decode cX7_rejectOf 108 = .ok (.invokevirtual 185, 3) := by decide +kernel
theorem dX7_rejectOf_111 : decode cX7_rejectOf 111 = .ok (.ireturn, 1) := by decide +kernel
set_option maxRecDepth 20000 in
theorem ggX7_best_X5_dearest : GoodIn wsX7_best wsX5_dearest := goodIn_ca (goodIn_r _ [10, 11, 12, 13, 14, 15, 9, 16, 17, 18, 19, 20, 21, 22, 23, 24, 25, 26, 27, 28, 29, 30, 31, 32, 44, 45, 46, 47, 48, 49, 50, 51, 52, 53, 54, 55, 56] (by decide +kernel) (by decide +kernel)) (goodIn_sub (fun _ h => List.mem_cons_of_mem _ (List.mem_append_right _ h)) (by decide +kernel))
set_option maxRecDepth 20000 in
theorem gX7_best_X5_dearest : GoodIn wsX7_best (wsV RX7 193 RX5 yX5_dearest wsX5_dearest) := goodIn_app (goodIn_of _ (by decide +kernel)) ggX7_best_X5_dearest
theorem dX7_best_0 : decode cX7_best 0 = .ok (.aload_n 0, 1) := by decide +kernel
theorem dX7_best_1 : decode cX7_best 1 = .ok (.getfield 10, 3) := by decide +kernel
theorem dX7_best_4 : decode cX7_best 4 = .ok (.getfield 179, 3) := by decide +kernel
theorem dX7_best_7 : decode cX7_best 7 = .ok (.getfield 82, 3) := by decide +kernel
theorem dX7_best_10 : decode cX7_best 10 = .ok (.ifCond .ne 13, 3) := by decide +kernel
theorem dX7_best_13 : decode cX7_best 13 = .ok (.new 188, 3) := by decide +kernel
theorem dX7_best_16 : decode cX7_best 16 = .ok (.dup, 1) := by decide +kernel
theorem dX7_best_17 : decode cX7_best 17 = .ok (.ldc 190, 2) := by decide +kernel
theorem dX7_best_19 : decode cX7_best 19 = .ok (.invokespecial 192, 3) := by decide +kernel
theorem dX7_best_22 : decode cX7_best 22 = .ok (.athrow, 1) := by decide +kernel
theorem dX7_best_23 : decode cX7_best 23 = .ok (.aload_n 0, 1) := by decide +kernel
theorem dX7_best_24 : decode cX7_best 24 = .ok (.getfield 10, 3) := by decide +kernel
theorem dX7_best_27 : decode cX7_best 27 = .ok (.invokevirtual 193, 3) := by decide +kernel
theorem dX7_best_30 : decode cX7_best 30 = .ok (.ireturn, 1) := by decide +kernel
set_option maxRecDepth 20000 in
theorem ggX7_allPrices_X7_pricesByPlaces : GoodIn wsX7_allPrices wsX7_pricesByPlaces := goodIn_ca (goodIn_r _ [5, 6, 7, 8, 9, 10, 11, 12, 13, 14, 15, 16, 17, 18, 19, 20, 21, 22, 23, 24, 25, 26, 93, 94, 95, 96, 97, 98, 99, 100, 101, 102, 103, 104, 105, 106, 107, 108, 109, 110, 111, 112, 113, 114, 115, 116] (by decide +kernel) (by decide +kernel)) (goodIn_sub (fun _ h => List.mem_cons_of_mem _ (List.mem_append_right _ h)) (by decide +kernel))
set_option maxRecDepth 20000 in
theorem gX7_allPrices_X7_pricesByPlaces : GoodIn wsX7_allPrices (wsV RX7 196 RX7 yX7_pricesByPlaces wsX7_pricesByPlaces) := goodIn_app (goodIn_of _ (by decide +kernel)) ggX7_allPrices_X7_pricesByPlaces
set_option maxRecDepth 20000 in
theorem ggX7_allPrices_X7_pricesInThought : GoodIn wsX7_allPrices wsX7_pricesInThought := goodIn_ca (goodIn_r _ [30, 31, 6, 7, 8, 32, 33, 34, 17, 35, 36, 19, 37, 38, 39, 40, 41, 42, 43, 44, 45, 46, 47, 48, 49, 50, 51, 52, 53, 54, 55, 56, 57, 58, 59, 23, 60, 25, 26, 61, 62, 63, 64, 65, 66, 67, 68, 69, 70, 71, 72, 73, 74, 75, 76, 77, 78, 79, 80, 81, 82, 83, 11, 12, 13, 84, 15, 16, 18, 20, 21, 22, 24, 85, 86, 87, 88, 89, 90, 91, 92, 93, 94, 95, 96, 97, 98, 99, 100, 101, 102, 103, 104, 105, 106, 107, 108, 109, 110, 111, 112, 113, 114, 115, 116, 117, 118, 119, 120, 121, 122, 123, 124] (by decide +kernel) (by decide +kernel)) (goodIn_sub (fun _ h => List.mem_cons_of_mem _ (List.mem_append_right _ h)) (by decide +kernel))
set_option maxRecDepth 20000 in
theorem gX7_allPrices_X7_pricesInThought : GoodIn wsX7_allPrices (wsV RX7 199 RX7 yX7_pricesInThought wsX7_pricesInThought) := goodIn_app (goodIn_of _ (by decide +kernel)) ggX7_allPrices_X7_pricesInThought
theorem dX7_allPrices_0 : decode cX7_allPrices 0 = .ok (.iload_n 1, 1) := by decide +kernel
theorem dX7_allPrices_1 : decode cX7_allPrices 1 = .ok (.ifCond .eq 10, 3) := by decide +kernel
theorem dX7_allPrices_4 : decode cX7_allPrices 4 = .ok (.aload_n 0, 1) := by decide +kernel
theorem dX7_allPrices_5 : decode cX7_allPrices 5 = .ok (.invokevirtual 196, 3) := by decide +kernel
theorem dX7_allPrices_8 : decode cX7_allPrices 8 = .ok (.goto 8, 3) := by decide +kernel
theorem dX7_allPrices_11 : decode cX7_allPrices 11 = .ok (.aload_n 0, 1) := by decide +kernel
theorem dX7_allPrices_12 : decode cX7_allPrices 12 = .ok (.iconst 0, 1) := by decide +kernel
theorem dX7_allPrices_13 : decode cX7_allPrices 13 = .ok (.invokevirtual 199, 3) := by decide +kernel
theorem dX7_allPrices_16 : decode cX7_allPrices 16 = .ok (.ireturn, 1) := by decide +kernel
set_option maxRecDepth 20000 in
theorem ggX7_bestOrder_X7_pricesInThought : GoodIn wsX7_bestOrder wsX7_pricesInThought := goodIn_ca (goodIn_r _ [5, 6, 7, 8, 9, 10, 11, 12, 13, 14, 15, 16, 17, 18, 19, 20, 21, 22, 23, 24, 25, 26, 27, 28, 29, 30, 31, 32, 33, 34, 35, 36, 37, 38, 39, 40, 41, 42, 43, 44, 45, 46, 47, 48, 49, 50, 51, 52, 53, 54, 55, 56, 57, 58, 59, 60, 61, 62, 63, 64, 65, 66, 67, 68, 69, 70, 71, 72, 73, 74, 75, 76, 77, 78, 79, 80, 81, 82, 83, 84, 85, 86, 87, 88, 89, 90, 91, 92, 93, 94, 95, 96, 97, 98, 99, 100, 101, 102, 103, 104, 105, 106, 107, 108, 109, 110, 111, 112, 113, 114, 115, 116, 117] (by decide +kernel) (by decide +kernel)) (goodIn_sub (fun _ h => List.mem_cons_of_mem _ (List.mem_append_right _ h)) (by decide +kernel))
set_option maxRecDepth 20000 in
theorem gX7_bestOrder_X7_pricesInThought : GoodIn wsX7_bestOrder (wsV RX7 199 RX7 yX7_pricesInThought wsX7_pricesInThought) := goodIn_app (goodIn_of _ (by decide +kernel)) ggX7_bestOrder_X7_pricesInThought
theorem dX7_bestOrder_0 : decode cX7_bestOrder 0 = .ok (.aload_n 0, 1) := by decide +kernel
theorem dX7_bestOrder_1 : decode cX7_bestOrder 1 = .ok (.iconst 1, 1) := by decide +kernel
theorem dX7_bestOrder_2 : decode cX7_bestOrder 2 = .ok (.invokevirtual 199, 3) := by decide +kernel
theorem dX7_bestOrder_5 : decode cX7_bestOrder 5 = .ok (.aload_n 0, 1) := by decide +kernel
theorem dX7_bestOrder_6 : decode cX7_bestOrder 6 = .ok (.iconst 0, 1) := by decide +kernel
theorem dX7_bestOrder_7 : decode cX7_bestOrder 7 = .ok (.invokevirtual 199, 3) := by decide +kernel
theorem dX7_bestOrder_10 : decode cX7_bestOrder 10 = .ok (.isub, 1) := by decide +kernel
theorem dX7_bestOrder_11 : decode cX7_bestOrder 11 = .ok (.ireturn, 1) := by decide +kernel
set_option maxRecDepth 20000 in
theorem ggX7_wouldMend_X7_demandReject : GoodIn wsX7_wouldMend wsX7_demandReject := goodIn_ca (goodIn_r _ [7, 8, 9, 1, 10, 11, 12, 13, 14, 15, 16, 55, 56, 57, 58, 59, 60, 61, 62, 63, 64, 65, 66, 67, 68, 69, 70, 71, 72, 73, 74, 75, 76, 77, 78] (by decide +kernel) (by decide +kernel)) (goodIn_sub (fun _ h => List.mem_cons_of_mem _ (List.mem_append_left _ (List.mem_append_right _ h))) (by decide +kernel))
set_option maxRecDepth 20000 in
theorem gX7_wouldMend_X7_demandReject : GoodIn wsX7_wouldMend (wsV RX7 176 RX7 yX7_demandReject wsX7_demandReject) := goodIn_app (goodIn_of _ (by decide +kernel)) ggX7_wouldMend_X7_demandReject
set_option maxRecDepth 20000 in
theorem ggX7_wouldMend_X5_repairedGrey : GoodIn wsX7_wouldMend wsX5_repairedGrey := goodIn_ca (goodIn_r _ [21, 22, 23, 24, 25, 26, 27, 28, 29, 14, 30, 31, 32, 33, 34, 16, 35, 66, 67, 68, 69, 70, 71, 72, 73, 74, 75, 76, 77, 78] (by decide +kernel) (by decide +kernel)) (goodIn_sub (fun _ h => List.mem_cons_of_mem _ (List.mem_append_right _ h)) (by decide +kernel))
set_option maxRecDepth 20000 in
theorem gX7_wouldMend_X5_repairedGrey : GoodIn wsX7_wouldMend (wsV RX7 203 RX5 yX5_repairedGrey wsX5_repairedGrey) := goodIn_app (goodIn_of _ (by decide +kernel)) ggX7_wouldMend_X5_repairedGrey
set_option maxRecDepth 20000 in
theorem ggX7_wouldMend_X5_repairedAlarm : GoodIn wsX7_wouldMend wsX5_repairedAlarm := goodIn_ca (goodIn_r _ [39, 22, 40, 41, 25, 42, 43, 44, 45, 14, 46, 31, 32, 33, 34, 16, 35, 66, 67, 68, 69, 70, 71, 72, 73, 74, 75, 76, 77, 78] (by decide +kernel) (by decide +kernel)) (goodIn_sub (fun _ h => List.mem_cons_of_mem _ (List.mem_append_right _ h)) (by decide +kernel))
set_option maxRecDepth 20000 in
theorem gX7_wouldMend_X5_repairedAlarm : GoodIn wsX7_wouldMend (wsV RX7 206 RX5 yX5_repairedAlarm wsX5_repairedAlarm) := goodIn_app (goodIn_of _ (by decide +kernel)) ggX7_wouldMend_X5_repairedAlarm
set_option maxRecDepth 20000 in
theorem ggX7_wouldMend_X0_isPassedBy : GoodIn wsX7_wouldMend wsX0_isPassedBy := goodIn_r _ [51, 52, 53, 54, 79, 80, 81, 82, 83, 84] (by decide +kernel) (by decide +kernel)
set_option maxRecDepth 20000 in
theorem gX7_wouldMend_X0_isPassedBy : GoodIn wsX7_wouldMend (wsV RX7 148 RX0 yX0_isPassedBy wsX0_isPassedBy) := goodIn_app (goodIn_of _ (by decide +kernel)) ggX7_wouldMend_X0_isPassedBy
theorem dX7_wouldMend_0 : decode cX7_wouldMend 0 = .ok (.aload_n 0, 1) := by decide +kernel
theorem dX7_wouldMend_1 : decode cX7_wouldMend 1 = .ok (.iload_n 1, 1) := by decide +kernel
theorem dX7_wouldMend_2 : decode cX7_wouldMend 2 = .ok (.invokevirtual 176, 3) := by decide +kernel
theorem dX7_wouldMend_5 : decode cX7_wouldMend 5 = .ok (.aload_n 0, 1) := by decide +kernel
theorem dX7_wouldMend_6 : decode cX7_wouldMend 6 = .ok (.getfield 10, 3) := by decide +kernel
theorem dX7_wouldMend_9 : decode cX7_wouldMend 9 = .ok (.iload_n 1, 1) := by decide +kernel
theorem dX7_wouldMend_10 : decode cX7_wouldMend 10 = .ok (.invokevirtual 203, 3) := by decide +kernel
theorem dX7_wouldMend_13 : decode cX7_wouldMend 13 = .ok (.istore_n 2, 1) := by decide +kernel
theorem dX7_wouldMend_14 : decode cX7_wouldMend 14 = .ok (.aload_n 0, 1) := by decide +kernel
theorem dX7_wouldMend_15 : decode cX7_wouldMend 15 = .ok (.getfield 10, 3) := by decide +kernel
theorem dX7_wouldMend_18 : decode cX7_wouldMend 18 = .ok (.iload_n 1, 1) := by decide +kernel
theorem dX7_wouldMend_19 : decode cX7_wouldMend 19 = .ok (.invokevirtual 206, 3) := by decide +kernel
theorem dX7_wouldMend_22 : decode cX7_wouldMend 22 = .ok (.istore_n 3, 1) := by decide +kernel
theorem dX7_wouldMend_23 : decode cX7_wouldMend 23 = .ok (.iconst 1, 1) := by decide +kernel
theorem dX7_wouldMend_24 : decode cX7_wouldMend 24 = .ok (.istore 4, 2) := by decide +kernel
theorem dX7_wouldMend_26 : decode cX7_wouldMend 26 = .ok (.iload 4, 2) := by decide +kernel
theorem dX7_wouldMend_28 : decode cX7_wouldMend 28 = .ok (.iconst 3, 1) := by decide +kernel
theorem dX7_wouldMend_29 : decode cX7_wouldMend 29 = .ok (.if_icmp .gt 30, 3) := by decide +kernel
theorem dX7_wouldMend_32 : decode cX7_wouldMend 32 = .ok (.aload_n 0, 1) := by decide +kernel
theorem dX7_wouldMend_33 : decode cX7_wouldMend 33 = .ok (.getfield 10, 3) := by decide +kernel
theorem dX7_wouldMend_36 : decode cX7_wouldMend 36 = .ok (.getfield 72, 3) := by decide +kernel
theorem dX7_wouldMend_39 : decode cX7_wouldMend 39 = .ok (.iconst 0, 1) := by decide +kernel
theorem dX7_wouldMend_40 : decode cX7_wouldMend 40 = .ok (.aaload, 1) := by decide +kernel
theorem dX7_wouldMend_41 : decode cX7_wouldMend 41 = .ok (.iload_n 2, 1) := by decide +kernel
theorem dX7_wouldMend_42 : decode cX7_wouldMend 42 = .ok (.iload_n 3, 1) := by decide +kernel
theorem dX7_wouldMend_43 : decode cX7_wouldMend 43 = .ok (.iload 4, 2) := by decide +kernel
theorem dX7_wouldMend_45 : decode cX7_wouldMend 45 = .ok (.invokevirtual 148, 3) := by decide +kernel
theorem dX7_wouldMend_48 : decode cX7_wouldMend 48 = .ok (.ifCond .ne 5, 3) := by decide +kernel
theorem dX7_wouldMend_51 : decode cX7_wouldMend 51 = .ok (.iconst 0, 1) := by decide +kernel
theorem dX7_wouldMend_52 : decode cX7_wouldMend 52 = .ok (.ireturn, 1) := by decide +kernel
theorem dX7_wouldMend_53 : decode cX7_wouldMend 53 = .ok (.iinc 4 1, 3) := by decide +kernel
theorem dX7_wouldMend_56 : decode cX7_wouldMend 56 = .ok (.goto (-30), 3) := by decide +kernel
theorem dX7_wouldMend_59 : decode cX7_wouldMend 59 = .ok (.iconst 1, 1) := by decide +kernel
theorem dX7_wouldMend_60 : decode cX7_wouldMend 60 = .ok (.ireturn, 1) := by decide +kernel
set_option maxRecDepth 20000 in
theorem ggX7_fresh_X1_has : GoodIn wsX7_fresh wsX1_has := goodIn_r _ [9, 10, 42, 43] (by decide +kernel) (by decide +kernel)
set_option maxRecDepth 20000 in
theorem gX7_fresh_X1_has : GoodIn wsX7_fresh (wsV RX7 121 RX1 yX1_has wsX1_has) := goodIn_app (goodIn_of _ (by decide +kernel)) ggX7_fresh_X1_has
set_option maxRecDepth 20000 in
theorem ggX7_fresh_X1_freshAt : GoodIn wsX7_fresh wsX1_freshAt := goodIn_ca (goodIn_r _ [14, 10, 15, 16, 17, 8, 18, 19, 42, 43] (by decide +kernel) (by decide +kernel)) (goodIn_sub (fun _ h => List.mem_cons_of_mem _ (List.mem_append_right _ h)) (by decide +kernel))
set_option maxRecDepth 20000 in
theorem gX7_fresh_X1_freshAt : GoodIn wsX7_fresh (wsV RX7 168 RX1 yX1_freshAt wsX1_freshAt) := goodIn_app (goodIn_of _ (by decide +kernel)) ggX7_fresh_X1_freshAt
theorem dX7_fresh_0 : decode cX7_fresh 0 = .ok (.aload_n 0, 1) := by decide +kernel
theorem dX7_fresh_1 : decode cX7_fresh 1 = .ok (.getfield 10, 3) := by decide +kernel
theorem dX7_fresh_4 : decode cX7_fresh 4 = .ok (.getfield 117, 3) := by decide +kernel
theorem dX7_fresh_7 : decode cX7_fresh 7 = .ok (.iload_n 1, 1) := by decide +kernel
theorem dX7_fresh_8 : decode cX7_fresh 8 = .ok (.invokevirtual 121, 3) := by decide +kernel
theorem dX7_fresh_11 : decode cX7_fresh 11 = .ok (.ifCond .ne 13, 3) := by decide +kernel
theorem dX7_fresh_14 : decode cX7_fresh 14 = .ok (.new 188, 3) := by decide +kernel
theorem dX7_fresh_17 : decode cX7_fresh 17 = .ok (.dup, 1) := by decide +kernel
theorem dX7_fresh_18 : decode cX7_fresh 18 = .ok (.ldc 209, 2) := by decide +kernel
theorem dX7_fresh_20 : decode cX7_fresh 20 = .ok (.invokespecial 192, 3) := by decide +kernel
theorem dX7_fresh_23 : decode cX7_fresh 23 = .ok (.athrow, 1) := by decide +kernel
theorem dX7_fresh_24 : decode cX7_fresh 24 = .ok (.aload_n 0, 1) := by decide +kernel
theorem dX7_fresh_25 : decode cX7_fresh 25 = .ok (.getfield 10, 3) := by decide +kernel
theorem dX7_fresh_28 : decode cX7_fresh 28 = .ok (.getfield 117, 3) := by decide +kernel
theorem dX7_fresh_31 : decode cX7_fresh 31 = .ok (.iload_n 1, 1) := by decide +kernel
theorem dX7_fresh_32 : decode cX7_fresh 32 = .ok (.invokevirtual 168, 3) := by decide +kernel
theorem dX7_fresh_35 : decode cX7_fresh 35 = .ok (.ireturn, 1) := by decide +kernel
set_option maxRecDepth 20000 in
theorem ggX7_greyest_X7_isBelt : GoodIn wsX7_greyest wsX7_isBelt := goodIn_r _ [7] (by decide +kernel) (by decide +kernel)
set_option maxRecDepth 20000 in
theorem gX7_greyest_X7_isBelt : GoodIn wsX7_greyest (va_wsS RX7 211 yX7_isBelt wsX7_isBelt) := goodIn_app (goodIn_of _ (by decide +kernel)) ggX7_greyest_X7_isBelt
set_option maxRecDepth 20000 in
theorem ggX7_greyest_X5_greyestAt : GoodIn wsX7_greyest wsX5_greyestAt := goodIn_ca (goodIn_r _ [12, 13, 14, 15, 11, 16, 17, 18, 19, 20, 21, 22, 23, 24, 25, 26, 27, 28, 29, 30, 31, 32, 33, 34, 35, 36, 37, 38, 39, 40, 41, 53, 54, 55, 56, 57, 58, 59, 60, 61, 62, 63, 64, 65, 66, 67, 68, 69, 70, 71] (by decide +kernel) (by decide +kernel)) (goodIn_sub (fun _ h => List.mem_cons_of_mem _ (List.mem_append_right _ h)) (by decide +kernel))
set_option maxRecDepth 20000 in
theorem gX7_greyest_X5_greyestAt : GoodIn wsX7_greyest (wsV RX7 214 RX5 yX5_greyestAt wsX5_greyestAt) := goodIn_app (goodIn_of _ (by decide +kernel)) ggX7_greyest_X5_greyestAt
theorem dX7_greyest_0 : decode cX7_greyest 0 = .ok (.iload_n 1, 1) := by decide +kernel
theorem dX7_greyest_1 : decode cX7_greyest 1 = .ok (.invokestatic 211, 3) := by decide +kernel
theorem dX7_greyest_4 : decode cX7_greyest 4 = .ok (.ifCond .ne 13, 3) := by decide +kernel
theorem dX7_greyest_7 : decode cX7_greyest 7 = .ok (.new 188, 3) := by decide +kernel
theorem dX7_greyest_10 : decode cX7_greyest 10 = .ok (.dup, 1) := by decide +kernel
theorem dX7_greyest_11 : decode cX7_greyest 11 = .ok (.ldc 209, 2) := by decide +kernel
theorem dX7_greyest_13 : decode cX7_greyest 13 = .ok (.invokespecial 192, 3) := by decide +kernel
theorem dX7_greyest_16 : decode cX7_greyest 16 = .ok (.athrow, 1) := by decide +kernel
theorem dX7_greyest_17 : decode cX7_greyest 17 = .ok (.aload_n 0, 1) := by decide +kernel
theorem dX7_greyest_18 : decode cX7_greyest 18 = .ok (.getfield 10, 3) := by decide +kernel
theorem dX7_greyest_21 : decode cX7_greyest 21 = .ok (.iload_n 1, 1) := by decide +kernel
theorem dX7_greyest_22 : decode cX7_greyest 22 = .ok (.invokevirtual 214, 3) := by decide +kernel
theorem dX7_greyest_25 : decode cX7_greyest 25 = .ok (.ireturn, 1) := by decide +kernel
set_option maxRecDepth 20000 in
theorem ggX7_line_X7_demandBelt : GoodIn wsX7_line wsX7_demandBelt := goodIn_ca (goodIn_r _ [9, 10, 11, 12, 13, 8, 14] (by decide +kernel) (by decide +kernel)) (goodIn_sub (fun _ h => List.mem_cons_of_mem _ (List.mem_append_left _ (List.mem_append_right _ h))) (by decide +kernel))
set_option maxRecDepth 20000 in
theorem gX7_line_X7_demandBelt : GoodIn wsX7_line (wsV RX7 64 RX7 yX7_demandBelt wsX7_demandBelt) := goodIn_app (goodIn_of _ (by decide +kernel)) ggX7_line_X7_demandBelt
set_option maxRecDepth 20000 in
theorem ggX7_line_X4_writeBelt : GoodIn wsX7_line wsX4_writeBelt := goodIn_ca (goodIn_r _ [19, 20, 21, 22, 23, 24, 25, 26, 27, 18, 28, 29, 30, 31, 32, 33, 34, 35, 36, 37, 38, 39, 40, 41, 42, 43, 44, 45, 46, 47, 48, 49, 50, 51, 52, 53, 54, 55, 56, 57, 58, 59, 60, 83, 84, 85, 86, 87, 88, 89, 90, 91, 92] (by decide +kernel) (by decide +kernel)) (goodIn_sub (fun _ h => List.mem_cons_of_mem _ (List.mem_append_right _ h)) (by decide +kernel))
set_option maxRecDepth 20000 in
theorem gX7_line_X4_writeBelt : GoodIn wsX7_line (wsV RX7 217 RX4 yX4_writeBelt wsX4_writeBelt) := goodIn_app (goodIn_of _ (by decide +kernel)) ggX7_line_X4_writeBelt
theorem dX7_line_0 : decode cX7_line 0 = .ok (.aload_n 0, 1) := by decide +kernel
theorem dX7_line_1 : decode cX7_line 1 = .ok (.iload_n 1, 1) := by decide +kernel
theorem dX7_line_2 : decode cX7_line 2 = .ok (.invokevirtual 64, 3) := by decide +kernel
theorem dX7_line_5 : decode cX7_line 5 = .ok (.aload_n 0, 1) := by decide +kernel
theorem dX7_line_6 : decode cX7_line 6 = .ok (.getfield 42, 3) := by decide +kernel
theorem dX7_line_9 : decode cX7_line 9 = .ok (.aload_n 0, 1) := by decide +kernel
theorem dX7_line_10 : decode cX7_line 10 = .ok (.getfield 10, 3) := by decide +kernel
theorem dX7_line_13 : decode cX7_line 13 = .ok (.getfield 72, 3) := by decide +kernel
theorem dX7_line_16 : decode cX7_line 16 = .ok (.iload_n 1, 1) := by decide +kernel
theorem dX7_line_17 : decode cX7_line 17 = .ok (.aaload, 1) := by decide +kernel
theorem dX7_line_18 : decode cX7_line 18 = .ok (.invokevirtual 217, 3) := by decide +kernel
theorem dX7_line_21 : decode cX7_line 21 = .ok (.aload_n 0, 1) := by decide +kernel
theorem dX7_line_22 : decode cX7_line 22 = .ok (.getfield 42, 3) := by decide +kernel
theorem dX7_line_25 : decode cX7_line 25 = .ok (.getfield 221, 3) := by decide +kernel
theorem dX7_line_28 : decode cX7_line 28 = .ok (.ireturn, 1) := by decide +kernel
set_option maxRecDepth 20000 in
theorem ggX7_shelfLine_X4_writeShelf : GoodIn wsX7_shelfLine wsX4_writeShelf := goodIn_ca (goodIn_r _ [9, 10, 11, 12, 13, 14, 8, 15, 16, 17, 18, 19, 20, 21, 22, 23, 24, 25, 26, 27, 28, 29, 30, 31, 32, 33, 34, 35, 36, 37, 38, 39, 40, 41, 42, 43, 44, 45, 46, 47, 48, 71, 72, 73, 74] (by decide +kernel) (by decide +kernel)) (goodIn_sub (fun _ h => List.mem_cons_of_mem _ (List.mem_append_right _ h)) (by decide +kernel))
set_option maxRecDepth 20000 in
theorem gX7_shelfLine_X4_writeShelf : GoodIn wsX7_shelfLine (wsV RX7 224 RX4 yX4_writeShelf wsX4_writeShelf) := goodIn_app (goodIn_of _ (by decide +kernel)) ggX7_shelfLine_X4_writeShelf
theorem dX7_shelfLine_0 : decode cX7_shelfLine 0 = .ok (.aload_n 0, 1) := by decide +kernel
theorem dX7_shelfLine_1 : decode cX7_shelfLine 1 = .ok (.getfield 42, 3) := by decide +kernel
theorem dX7_shelfLine_4 : decode cX7_shelfLine 4 = .ok (.aload_n 0, 1) := by decide +kernel
theorem dX7_shelfLine_5 : decode cX7_shelfLine 5 = .ok (.getfield 10, 3) := by decide +kernel
theorem dX7_shelfLine_8 : decode cX7_shelfLine 8 = .ok (.getfield 179, 3) := by decide +kernel
theorem dX7_shelfLine_11 : decode cX7_shelfLine 11 = .ok (.invokevirtual 224, 3) := by decide +kernel
theorem dX7_shelfLine_14 : decode cX7_shelfLine 14 = .ok (.aload_n 0, 1) := by decide +kernel
theorem dX7_shelfLine_15 : decode cX7_shelfLine 15 = .ok (.getfield 42, 3) := by decide +kernel
theorem dX7_shelfLine_18 : decode cX7_shelfLine 18 = .ok (.getfield 221, 3) := by decide +kernel
theorem dX7_shelfLine_21 : decode cX7_shelfLine 21 = .ok (.ireturn, 1) := by decide +kernel
theorem dX7_character_0 : decode cX7_character 0 = .ok (.iload_n 1, 1) := by decide +kernel
theorem dX7_character_1 : decode cX7_character 1 = .ok (.ifCond .lt 14, 3) := by decide +kernel
theorem dX7_character_4 : decode cX7_character 4 = .ok (.iload_n 1, 1) := by decide +kernel
theorem dX7_character_5 : decode cX7_character 5 = .ok (.aload_n 0, 1) := by decide +kernel
theorem dX7_character_6 : decode cX7_character 6 = .ok (.getfield 42, 3) := by decide +kernel
theorem dX7_character_9 : decode cX7_character 9 = .ok (.getfield 221, 3) := by decide +kernel
theorem dX7_character_12 : decode cX7_character 12 = .ok (.if_icmp .lt 13, 3) := by decide +kernel
theorem dX7_character_15 : decode cX7_character 15 = .ok (.new 126, 3) := by decide +kernel
theorem dX7_character_18 : decode cX7_character 18 = .ok (.dup, 1) := by decide +kernel
theorem dX7_character_19 : decode cX7_character 19 = .ok (.ldc 228, 2) := by decide +kernel
theorem dX7_character_21 : decode cX7_character 21 = .ok (.invokespecial 130, 3) := by decide +kernel
theorem dX7_character_24 : decode cX7_character 24 = .ok (.athrow, 1) := by decide +kernel
theorem dX7_character_25 : decode cX7_character 25 = .ok (.aload_n 0, 1) := by decide +kernel
theorem dX7_character_26 : decode cX7_character 26 = .ok (.getfield 42, 3) := by decide +kernel
theorem dX7_character_29 : decode cX7_character 29 = .ok (.getfield 230, 3) := by decide +kernel
theorem dX7_character_32 : decode cX7_character 32 = .ok (.iload_n 1, 1) := by decide +kernel
theorem dX7_character_33 : decode cX7_character 33 = .ok (.caload, 1) := by decide +kernel
theorem dX7_character_34 : decode cX7_character 34 = .ok (.ireturn, 1) := by decide +kernel
set_option maxRecDepth 20000 in
theorem ggX7_append_X3_add : GoodIn wsX7_append wsX3_add := goodIn_ca (goodIn_r _ [9, 10, 11, 23, 24] (by decide +kernel) (by decide +kernel)) (goodIn_sub (fun _ h => List.mem_cons_of_mem _ (List.mem_append_right _ h)) (by decide +kernel))
set_option maxRecDepth 20000 in
theorem gX7_append_X3_add : GoodIn wsX7_append (wsV RX7 240 RX3 yX3_add wsX3_add) := goodIn_app (goodIn_of _ (by decide +kernel)) ggX7_append_X3_add
theorem dX7_append_0 : decode cX7_append 0 = .ok (.aload_n 0, 1) := by decide +kernel
theorem dX7_append_1 : decode cX7_append 1 = .ok (.getfield 35, 3) := by decide +kernel
theorem dX7_append_4 : decode cX7_append 4 = .ok (.getfield 234, 3) := by decide +kernel
theorem dX7_append_7 : decode cX7_append 7 = .ok (.bipush 60, 2) := by decide +kernel
theorem dX7_append_9 : decode cX7_append 9 = .ok (.if_icmp .lt 13, 3) := by decide +kernel
theorem dX7_append_12 : decode cX7_append 12 = .ok (.new 235, 3) := by decide +kernel
theorem dX7_append_15 : decode cX7_append 15 = .ok (.dup, 1) := by decide +kernel
theorem dX7_append_16 : decode cX7_append 16 = .ok (.ldc 237, 2) := by decide +kernel
theorem dX7_append_18 : decode cX7_append 18 = .ok (.invokespecial 239, 3) := by decide +kernel
theorem dX7_append_21 : decode cX7_append 21 = .ok (.athrow, 1) := by decide +kernel
theorem dX7_append_22 : decode cX7_append 22 = .ok (.aload_n 0, 1) := by decide +kernel
theorem dX7_append_23 : decode cX7_append 23 = .ok (.getfield 35, 3) := by decide +kernel
theorem dX7_append_26 : decode cX7_append 26 = .ok (.iload_n 1, 1) := by decide +kernel
theorem dX7_append_27 : decode cX7_append 27 = .ok (.invokevirtual 240, 3) := by decide +kernel
theorem dX7_append_30 : decode cX7_append 30 = .ok (.aload_n 0, 1) := by decide +kernel
theorem dX7_append_31 : decode cX7_append 31 = .ok (.getfield 35, 3) := by decide +kernel
theorem dX7_append_34 : decode cX7_append 34 = .ok (.getfield 234, 3) := by decide +kernel
theorem dX7_append_37 : decode cX7_append 37 = .ok (.ireturn, 1) := by decide +kernel
set_option maxRecDepth 20000 in
theorem ggX7_run_X3_findError : GoodIn wsX7_run wsX3_findError := goodIn_ca (goodIn_r _ [15, 16, 17, 18, 14, 19, 20, 21, 22, 23, 24, 25, 26, 27, 28, 29, 297, 298] (by decide +kernel) (by decide +kernel)) (goodIn_sub (fun _ h => List.mem_cons_of_mem _ (List.mem_append_right _ h)) (by decide +kernel))
set_option maxRecDepth 20000 in
theorem gX7_run_X3_findError : GoodIn wsX7_run (wsV RX7 244 RX3 yX3_findError wsX3_findError) := goodIn_app (goodIn_of _ (by decide +kernel)) ggX7_run_X3_findError
set_option maxRecDepth 20000 in
theorem ggX7_run_X5_copyFrom : GoodIn wsX7_run wsX5_copyFrom := goodIn_r _ [34, 35, 36, 37, 38, 39, 40, 41, 42, 43, 44, 45, 46, 47, 48, 49, 50, 51, 52, 53, 54, 55, 56, 57, 58, 59, 60, 61, 62, 63, 64, 65, 66, 67, 68, 69, 70, 71, 72, 73, 74, 75, 76, 299, 300, 301, 302, 303, 304, 305, 306, 307, 308, 309, 310, 311, 312, 313, 314, 315, 316, 317, 318, 319] (by decide +kernel) (by decide +kernel)
set_option maxRecDepth 20000 in
theorem gX7_run_X5_copyFrom : GoodIn wsX7_run (wsV RX7 161 RX5 yX5_copyFrom wsX5_copyFrom) := goodIn_app (goodIn_of _ (by decide +kernel)) ggX7_run_X5_copyFrom
set_option maxRecDepth 20000 in
theorem ggX7_run_X7_carryOutText : GoodIn wsX7_run wsX7_carryOutText := goodIn_ca (goodIn_r _ [81, 5, 9, 82, 17, 18, 14, 19, 20, 83, 25, 26, 84, 85, 86, 87, 16, 27, 28, 29, 88, 89, 90, 33, 91, 37, 92, 36, 93, 94, 95, 72, 96, 74, 97, 98, 99, 60, 100, 62, 101, 102, 103, 104, 38, 105, 106, 107, 108, 35, 109, 110, 111, 112, 113, 114, 115, 116, 117, 118, 63, 119, 80, 120, 121, 122, 123, 124, 125, 126, 127, 128, 129, 130, 131, 132, 133, 134, 135, 136, 39, 137, 138, 139, 140, 141, 142, 143, 144, 40, 145, 146, 147, 148, 149, 150, 151, 152, 153, 154, 155, 156, 157, 158, 159, 160, 161, 162, 163, 164, 165, 166, 167, 75, 168, 169, 170, 171, 172, 173, 174, 175, 176, 177, 178, 179, 180, 181, 182, 183, 184, 185, 186, 187, 188, 189, 190, 191, 192, 193, 194, 195, 196, 197, 198, 199, 200, 201, 202, 203, 204, 205, 206, 207, 208, 209, 49, 210, 52, 53, 54, 211, 212, 213, 214, 215, 216, 217, 41, 42, 218, 219, 220, 221, 64, 65, 66, 67, 222, 223, 224, 225, 226, 227, 228, 229, 76, 230, 231, 232, 233, 234, 43, 44, 235, 236, 237, 238, 239, 240, 241, 242, 243, 244, 245, 246, 247, 45, 248, 249, 250, 251, 252, 253, 254, 255, 256, 257, 258, 259, 260, 261, 262, 263, 264, 265, 266, 267, 268, 269, 270, 271, 286, 287, 288, 289, 290, 291, 292, 293, 294, 295, 296, 297, 298, 299, 300, 301, 302, 303, 304, 305, 306, 307, 308, 309, 318, 319, 316, 317, 310, 311, 312, 313, 314, 315] (by decide +kernel) (by decide +kernel)) (goodIn_sub (fun _ h => List.mem_cons_of_mem _ (List.mem_append_right _ h)) (by decide +kernel))
set_option maxRecDepth 20000 in
theorem gX7_run_X7_carryOutText : GoodIn wsX7_run (wsV RX7 249 RX7 yX7_carryOutText wsX7_carryOutText) := goodIn_app (goodIn_of _ (by decide +kernel)) ggX7_run_X7_carryOutText
set_option maxRecDepth 20000 in
theorem ggX7_run_X2_remember : GoodIn wsX7_run wsX2_remember := goodIn_r _ [276, 277, 278, 279, 280, 178, 179, 180, 281, 31, 32, 33, 34, 35, 36, 37, 38, 39, 40, 41, 42, 43, 44, 45, 46, 47, 48, 49, 50, 51, 52, 53, 54, 55, 56, 57, 58, 59, 60, 61, 62, 63, 64, 65, 66, 67, 68, 69, 70, 71, 72, 73, 74, 75, 76, 320, 321, 322, 299, 300, 301, 302, 303, 304, 305, 306, 307, 308, 309, 310, 311, 312, 313, 314, 315, 316, 317, 318, 319] (by decide +kernel) (by decide +kernel)
set_option maxRecDepth 20000 in
theorem gX7_run_X2_remember : GoodIn wsX7_run (wsV RX7 259 RX2 yX2_remember wsX2_remember) := goodIn_app (goodIn_of _ (by decide +kernel)) ggX7_run_X2_remember
set_option maxRecDepth 20000 in
theorem ggX7_run_X3_countOrders : GoodIn wsX7_run wsX3_countOrders := goodIn_ca (goodIn_r _ [285, 16, 17, 18, 14, 19, 20, 24, 25, 26, 297, 298] (by decide +kernel) (by decide +kernel)) (goodIn_sub (fun _ h => List.mem_cons_of_mem _ (List.mem_append_right _ h)) (by decide +kernel))
set_option maxRecDepth 20000 in
theorem gX7_run_X3_countOrders : GoodIn wsX7_run (wsV RX7 262 RX3 yX3_countOrders wsX3_countOrders) := goodIn_app (goodIn_of _ (by decide +kernel)) ggX7_run_X3_countOrders
theorem dX7_run_0 : decode cX7_run 0 = .ok (.aload_n 0, 1) := by decide +kernel
theorem dX7_run_1 : decode cX7_run 1 = .ok (.getfield 35, 3) := by decide +kernel
theorem dX7_run_4 : decode cX7_run 4 = .ok (.getfield 234, 3) := by decide +kernel
theorem dX7_run_7 : decode cX7_run 7 = .ok (.istore_n 1, 1) := by decide +kernel
theorem dX7_run_8 : decode cX7_run 8 = .ok (.aload_n 0, 1) := by decide +kernel
theorem dX7_run_9 : decode cX7_run 9 = .ok (.getfield 35, 3) := by decide +kernel
theorem dX7_run_12 : decode cX7_run 12 = .ok (.iconst 0, 1) := by decide +kernel
theorem dX7_run_13 : decode cX7_run 13 = .ok (.putfield 234, 3) := by decide +kernel
theorem dX7_run_16 : decode cX7_run 16 = .ok (.aload_n 0, 1) := by decide +kernel
theorem dX7_run_17 : decode cX7_run 17 = .ok (.aload_n 0, 1) := by decide +kernel
theorem dX7_run_18 : decode cX7_run 18 = .ok (.getfield 35, 3) := by decide +kernel
theorem dX7_run_21 : decode cX7_run 21 = .ok (.iload_n 1, 1) := by decide +kernel
theorem dX7_run_22 : decode cX7_run 22 = .ok (.invokevirtual 244, 3) := by decide +kernel
theorem dX7_run_25 : decode cX7_run 25 = .ok (.putfield 50, 3) := by decide +kernel
theorem dX7_run_28 : decode cX7_run 28 = .ok (.aload_n 0, 1) := by decide +kernel
theorem dX7_run_29 : decode cX7_run 29 = .ok (.getfield 50, 3) := by decide +kernel
theorem dX7_run_32 : decode cX7_run 32 = .ok (.iconst (-1), 1) := by decide +kernel
theorem dX7_run_33 : decode cX7_run 33 = .ok (.if_icmp .eq 13, 3) := by decide +kernel
theorem dX7_run_36 : decode cX7_run 36 = .ok (.new 137, 3) := by decide +kernel
theorem dX7_run_39 : decode cX7_run 39 = .ok (.dup, 1) := by decide +kernel
theorem dX7_run_40 : decode cX7_run 40 = .ok (.ldc 247, 2) := by decide +kernel
theorem dX7_run_42 : decode cX7_run 42 = .ok (.invokespecial 141, 3) := by decide +kernel
theorem dX7_run_45 : decode cX7_run 45 = .ok (.athrow, 1) := by decide +kernel
theorem dX7_run_46 : decode cX7_run 46 = .ok (.aload_n 0, 1) := by decide +kernel
theorem dX7_run_47 : decode cX7_run 47 = .ok (.getfield 19, 3) := by decide +kernel
theorem dX7_run_50 : decode cX7_run 50 = .ok (.aload_n 0, 1) := by decide +kernel
theorem dX7_run_51 : decode cX7_run 51 = .ok (.getfield 10, 3) := by decide +kernel
theorem dX7_run_54 : decode cX7_run 54 = .ok (.invokevirtual 161, 3) := by decide +kernel
theorem dX7_run_57 : decode cX7_run 57 = .ok (.aload_n 0, 1) := by decide +kernel
theorem dX7_run_58 : decode cX7_run 58 = .ok (.iload_n 1, 1) := by decide +kernel
theorem dX7_run_59 : decode cX7_run 59 = .ok (.invokevirtual 249, 3) := by decide +kernel
theorem dX7_run_62 : decode cX7_run 62 = .ok (.istore_n 2, 1) := by decide +kernel
theorem dX7_run_63 : decode cX7_run 63 = .ok (.iload_n 2, 1) := by decide +kernel
theorem dX7_run_64 : decode cX7_run 64 = .ok (.ifCond .eq 14, 3) := by decide +kernel
theorem dX7_run_67 : decode cX7_run 67 = .ok (.aload_n 0, 1) := by decide +kernel
theorem dX7_run_68 : decode cX7_run 68 = .ok (.getfield 10, 3) := by decide +kernel
theorem dX7_run_71 : decode cX7_run 71 = .ok (.aload_n 0, 1) := by decide +kernel
theorem dX7_run_72 : decode cX7_run 72 = .ok (.getfield 19, 3) := by decide +kernel
theorem dX7_run_75 : decode cX7_run 75 = .ok (.invokevirtual 161, 3) := by decide +kernel
theorem dX7_run_78 : decode cX7_run 78 = .ok (.iload_n 2, 1) := by decide +kernel
theorem dX7_run_79 : decode cX7_run 79 = .ok (.bipush 6, 2) := by decide +kernel
theorem dX7_run_81 : decode cX7_run 81 = .ok (.if_icmp .eq 9, 3) := by decide +kernel
theorem dX7_run_84 : decode cX7_run 84 = .ok (.iload_n 2, 1) := by decide +kernel
theorem dX7_run_85 : decode cX7_run 85 = .ok (.bipush 7, 2) := by decide +kernel
theorem dX7_run_87 : decode cX7_run 87 = .ok (.if_icmp .ne 13, 3) := by decide +kernel
theorem dX7_run_90 : decode cX7_run 90 = .ok (.new 137, 3) := by decide +kernel
theorem dX7_run_93 : decode cX7_run 93 = .ok (.dup, 1) := by decide +kernel
theorem dX7_run_94 : decode cX7_run 94 = .ok (.ldc 252, 2) := by decide +kernel
theorem dX7_run_96 : decode cX7_run 96 = .ok (.invokespecial 141, 3) := by decide +kernel
theorem dX7_run_99 : decode cX7_run 99 = .ok (.athrow, 1) := by decide +kernel
theorem dX7_run_100 : decode cX7_run 100 = .ok (.iload_n 2, 1) := by decide +kernel
theorem dX7_run_101 : decode cX7_run 101 = .ok (.ifCond .eq 14, 3) := by decide +kernel
theorem dX7_run_104 : decode cX7_run 104 = .ok (.new 254, 3) := by decide +kernel
theorem dX7_run_107 : decode cX7_run 107 = .ok (.dup, 1) := by decide +kernel
theorem dX7_run_108 : decode cX7_run 108 = .ok (.ldc_w 256, 3) := by decide +kernel
theorem dX7_run_111 : decode cX7_run 111 = .ok (.invokespecial 258, 3) := by decide +kernel
theorem dX7_run_114 : decode cX7_run 114 = .ok (.athrow, 1) := by decide +kernel
theorem dX7_run_115 : decode cX7_run 115 = .ok (.aload_n 0, 1) := by decide +kernel
theorem dX7_run_116 : decode cX7_run 116 = .ok (.getfield 28, 3) := by decide +kernel
theorem dX7_run_119 : decode cX7_run 119 = .ok (.aload_n 0, 1) := by decide +kernel
theorem dX7_run_120 : decode cX7_run 120 = .ok (.getfield 19, 3) := by decide +kernel
theorem dX7_run_123 : decode cX7_run 123 = .ok (.invokevirtual 259, 3) := by decide +kernel
theorem dX7_run_126 : decode cX7_run 126 = .ok (.aload_n 0, 1) := by decide +kernel
theorem dX7_run_127 : decode cX7_run 127 = .ok (.getfield 35, 3) := by decide +kernel
theorem dX7_run_130 : decode cX7_run 130 = .ok (.iload_n 1, 1) := by decide +kernel
theorem dX7_run_131 : decode cX7_run 131 = .ok (.invokevirtual 262, 3) := by decide +kernel
theorem dX7_run_134 : decode cX7_run 134 = .ok (.ireturn, 1) := by decide +kernel
theorem dX7_errorPosition_0 : decode cX7_errorPosition 0 = .ok (.aload_n 0, 1) := by decide +kernel
theorem dX7_errorPosition_1 : decode cX7_errorPosition 1 = .ok (.getfield 50, 3) := by decide +kernel
theorem dX7_errorPosition_4 : decode cX7_errorPosition 4 = .ok (.ireturn, 1) := by decide +kernel
theorem dX7_refusal_0 : decode cX7_refusal 0 = .ok (.aload_n 0, 1) := by decide +kernel
theorem dX7_refusal_1 : decode cX7_refusal 1 = .ok (.getfield 54, 3) := by decide +kernel
theorem dX7_refusal_4 : decode cX7_refusal 4 = .ok (.ifCond .ne 14, 3) := by decide +kernel
theorem dX7_refusal_7 : decode cX7_refusal 7 = .ok (.new 188, 3) := by decide +kernel
theorem dX7_refusal_10 : decode cX7_refusal 10 = .ok (.dup, 1) := by decide +kernel
theorem dX7_refusal_11 : decode cX7_refusal 11 = .ok (.ldc_w 265, 3) := by decide +kernel
theorem dX7_refusal_14 : decode cX7_refusal 14 = .ok (.invokespecial 192, 3) := by decide +kernel
theorem dX7_refusal_17 : decode cX7_refusal 17 = .ok (.athrow, 1) := by decide +kernel
theorem dX7_refusal_18 : decode cX7_refusal 18 = .ok (.iload_n 1, 1) := by decide +kernel
theorem dX7_refusal_19 : decode cX7_refusal 19 = .ok (.ifCond .eq 10, 3) := by decide +kernel
theorem dX7_refusal_22 : decode cX7_refusal 22 = .ok (.aload_n 0, 1) := by decide +kernel
theorem dX7_refusal_23 : decode cX7_refusal 23 = .ok (.getfield 57, 3) := by decide +kernel
theorem dX7_refusal_26 : decode cX7_refusal 26 = .ok (.goto 7, 3) := by decide +kernel
theorem dX7_refusal_29 : decode cX7_refusal 29 = .ok (.aload_n 0, 1) := by decide +kernel
theorem dX7_refusal_30 : decode cX7_refusal 30 = .ok (.getfield 54, 3) := by decide +kernel
theorem dX7_refusal_33 : decode cX7_refusal 33 = .ok (.ireturn, 1) := by decide +kernel
set_option maxRecDepth 20000 in
theorem ggX7_account_X7_demandWhat : GoodIn wsX7_account wsX7_demandWhat := goodIn_ca (goodIn_r _ [9, 10, 11] (by decide +kernel) (by decide +kernel)) (goodIn_sub (fun _ h => List.mem_cons_of_mem _ (List.mem_append_left _ (List.mem_append_right _ h))) (by decide +kernel))
set_option maxRecDepth 20000 in
theorem gX7_account_X7_demandWhat : GoodIn wsX7_account (va_wsS RX7 68 yX7_demandWhat wsX7_demandWhat) := goodIn_app (goodIn_of _ (by decide +kernel)) ggX7_account_X7_demandWhat
set_option maxRecDepth 20000 in
theorem ggX7_account_X5_accountOf : GoodIn wsX7_account wsX5_accountOf := goodIn_ca (goodIn_r _ [16, 17, 18, 19, 20, 21, 22, 23, 24, 25, 26, 27, 28, 29, 30, 31, 15, 32, 33, 34, 35, 36, 37, 38, 39, 40, 41, 42, 43, 44, 45, 46, 47, 48, 49, 50, 51, 52, 53, 54, 55, 56, 57, 58, 59, 60, 61, 78, 79, 80, 81, 82, 83, 84, 85, 86, 87, 88, 89, 90, 91, 92, 93, 94, 95, 96, 97, 98] (by decide +kernel) (by decide +kernel)) (goodIn_sub (fun _ h => List.mem_cons_of_mem _ (List.mem_append_right _ h)) (by decide +kernel))
set_option maxRecDepth 20000 in
theorem gX7_account_X5_accountOf : GoodIn wsX7_account (wsV RX7 268 RX5 yX5_accountOf wsX5_accountOf) := goodIn_app (goodIn_of _ (by decide +kernel)) ggX7_account_X5_accountOf
theorem dX7_account_0 : decode cX7_account 0 = .ok (.iload_n 1, 1) := by decide +kernel
theorem dX7_account_1 : decode cX7_account 1 = .ok (.bipush 14, 2) := by decide +kernel
theorem dX7_account_3 : decode cX7_account 3 = .ok (.invokestatic 68, 3) := by decide +kernel
theorem dX7_account_6 : decode cX7_account 6 = .ok (.iload_n 1, 1) := by decide +kernel
theorem dX7_account_7 : decode cX7_account 7 = .ok (.lookupswitch 41 #[(13, 25), (14, 33)], 25) := by decide +kernel
theorem dX7_account_32 : decode cX7_account 32 = .ok (.aload_n 0, 1) := by decide +kernel
theorem dX7_account_33 : decode cX7_account 33 = .ok (.getfield 35, 3) := by decide +kernel
theorem dX7_account_36 : decode cX7_account 36 = .ok (.getfield 234, 3) := by decide +kernel
theorem dX7_account_39 : decode cX7_account 39 = .ok (.ireturn, 1) := by decide +kernel
theorem dX7_account_40 : decode cX7_account 40 = .ok (.aload_n 0, 1) := by decide +kernel
theorem dX7_account_41 : decode cX7_account 41 = .ok (.getfield 28, 3) := by decide +kernel
theorem dX7_account_44 : decode cX7_account 44 = .ok (.getfield 267, 3) := by decide +kernel
theorem dX7_account_47 : decode cX7_account 47 = .ok (.ireturn, 1) := by decide +kernel
theorem dX7_account_48 : decode cX7_account 48 = .ok (.aload_n 0, 1) := by decide +kernel
theorem dX7_account_49 : decode cX7_account 49 = .ok (.getfield 10, 3) := by decide +kernel
theorem dX7_account_52 : decode cX7_account 52 = .ok (.iload_n 1, 1) := by decide +kernel
theorem dX7_account_53 : decode cX7_account 53 = .ok (.invokevirtual 268, 3) := by decide +kernel
theorem dX7_account_56 : decode cX7_account 56 = .ok (.ireturn, 1) := by decide +kernel
set_option maxRecDepth 20000 in
theorem ggX7_isWell_X5_mondays : GoodIn wsX7_isWell wsX5_mondays := goodIn_ca (goodIn_r _ [11, 12, 13, 14, 15, 16, 17, 18, 19, 20, 21, 22, 23, 24, 25, 26, 27, 28, 29, 30, 31, 32, 212, 213, 214, 215, 216, 217, 218, 219, 220, 221, 222, 225, 226, 227, 228, 229, 230, 223, 224] (by decide +kernel) (by decide +kernel)) (goodIn_sub (fun _ h => List.mem_cons_of_mem _ (List.mem_append_right _ h)) (by decide +kernel))
set_option maxRecDepth 20000 in
theorem gX7_isWell_X5_mondays : GoodIn wsX7_isWell (wsV RX7 271 RX5 yX5_mondays wsX5_mondays) := goodIn_app (goodIn_of _ (by decide +kernel)) ggX7_isWell_X5_mondays
set_option maxRecDepth 20000 in
theorem ggX7_isWell_X5_stamped : GoodIn wsX7_isWell wsX5_stamped := goodIn_r _ [36, 12, 37, 212, 213, 214, 215, 216, 217, 218, 219, 220, 221, 222, 225, 226, 227, 228, 229, 230] (by decide +kernel) (by decide +kernel)
set_option maxRecDepth 20000 in
theorem gX7_isWell_X5_stamped : GoodIn wsX7_isWell (wsV RX7 274 RX5 yX5_stamped wsX5_stamped) := goodIn_app (goodIn_of _ (by decide +kernel)) ggX7_isWell_X5_stamped
set_option maxRecDepth 20000 in
theorem ggX7_isWell_X7_areFailsAlike : GoodIn wsX7_isWell wsX7_areFailsAlike := goodIn_ca (goodIn_r _ [42, 1, 43, 44, 45, 46, 3, 47, 48, 49, 41, 50, 51, 52, 53, 54, 10, 55, 12, 56, 57, 58, 59, 60, 61, 62, 63, 64, 65, 66, 67, 68, 18, 69, 20, 70, 71, 72, 73, 74, 75, 76, 77, 25, 78, 31, 32, 79, 80, 81, 82, 83, 84, 85, 86, 87, 88, 89, 90, 91, 92, 93, 94, 95, 96, 97, 98, 99, 13, 100, 101, 102, 103, 104, 105, 106, 107, 108, 23, 24, 26, 27, 28, 29, 30, 109, 110, 111, 112, 113, 114, 115, 116, 117, 118, 119, 120, 121, 122, 123, 124, 125, 126, 127, 128, 129, 37, 130, 131, 132, 133, 134, 135, 136, 137, 138, 139, 140, 141, 142, 143, 144, 145, 146, 147, 148, 149, 150, 151, 152, 153, 154, 155, 14, 156, 157, 158, 159, 160, 161, 162, 163, 164, 165, 166, 167, 168, 169, 170, 171, 172, 201, 202, 203, 204, 205, 206, 207, 208, 209, 210, 211, 212, 213, 214, 215, 216, 217, 218, 219, 220, 221, 222, 231, 232, 225, 226, 227, 228, 229, 230, 223, 224] (by decide +kernel) (by decide +kernel)) (goodIn_sub (fun _ h => List.mem_cons_of_mem _ (List.mem_append_right _ h)) (by decide +kernel))
set_option maxRecDepth 20000 in
theorem gX7_isWell_X7_areFailsAlike : GoodIn wsX7_isWell (wsV RX7 282 RX7 yX7_areFailsAlike wsX7_areFailsAlike) := goodIn_app (goodIn_of _ (by decide +kernel)) ggX7_isWell_X7_areFailsAlike
set_option maxRecDepth 20000 in
theorem ggX7_isWell_X7_pricesInThought : GoodIn wsX7_isWell wsX7_pricesInThought := goodIn_ca (goodIn_r _ [176, 51, 1, 2, 3, 52, 53, 54, 10, 55, 12, 56, 57, 58, 59, 60, 61, 62, 63, 64, 65, 66, 67, 68, 18, 69, 20, 70, 71, 72, 73, 74, 75, 76, 77, 25, 78, 31, 32, 79, 80, 81, 82, 83, 84, 85, 86, 87, 88, 89, 90, 91, 177, 178, 179, 180, 14, 181, 182, 183, 184, 185, 118, 115, 119, 186, 187, 188, 189, 156, 28, 29, 30, 190, 191, 192, 193, 161, 93, 94, 95, 201, 202, 203, 204, 205, 206, 207, 208, 209, 210, 211, 212, 213, 214, 215, 216, 217, 218, 219, 220, 221, 222, 223, 224, 225, 226, 227, 228, 229, 230, 231, 232] (by decide +kernel) (by decide +kernel)) (goodIn_sub (fun _ h => List.mem_cons_of_mem _ (List.mem_append_right _ h)) (by decide +kernel))
set_option maxRecDepth 20000 in
theorem gX7_isWell_X7_pricesInThought : GoodIn wsX7_isWell (wsV RX7 199 RX7 yX7_pricesInThought wsX7_pricesInThought) := goodIn_app (goodIn_of _ (by decide +kernel)) ggX7_isWell_X7_pricesInThought
set_option maxRecDepth 20000 in
theorem ggX7_isWell_X7_pricesByPlaces : GoodIn wsX7_isWell wsX7_pricesByPlaces := goodIn_ca (goodIn_r _ [197, 1, 2, 3, 198, 199, 118, 115, 119, 200, 187, 188, 10, 189, 56, 156, 28, 29, 25, 30, 31, 32, 201, 202, 203, 204, 205, 206, 207, 208, 209, 210, 211, 212, 213, 214, 215, 216, 217, 218, 219, 220, 221, 222, 223, 224] (by decide +kernel) (by decide +kernel)) (goodIn_sub (fun _ h => List.mem_cons_of_mem _ (List.mem_append_right _ h)) (by decide +kernel))
set_option maxRecDepth 20000 in
theorem gX7_isWell_X7_pricesByPlaces : GoodIn wsX7_isWell (wsV RX7 196 RX7 yX7_pricesByPlaces wsX7_pricesByPlaces) := goodIn_app (goodIn_of _ (by decide +kernel)) ggX7_isWell_X7_pricesByPlaces
theorem dX7_isWell_0 : decode cX7_isWell 0 = .ok (.aload_n 0, 1) := by decide +kernel
theorem dX7_isWell_1 : decode cX7_isWell 1 = .ok (.getfield 10, 3) := by decide +kernel
theorem dX7_isWell_4 : decode cX7_isWell 4 = .ok (.invokevirtual 271, 3) := by decide +kernel
theorem dX7_isWell_7 : decode cX7_isWell 7 = .ok (.aload_n 0, 1) := by decide +kernel
theorem dX7_isWell_8 : decode cX7_isWell 8 = .ok (.getfield 10, 3) := by decide +kernel
theorem dX7_isWell_11 : decode cX7_isWell 11 = .ok (.getfield 179, 3) := by decide +kernel
theorem dX7_isWell_14 : decode cX7_isWell 14 = .ok (.getfield 82, 3) := by decide +kernel
theorem dX7_isWell_17 : decode cX7_isWell 17 = .ok (.iadd, 1) := by decide +kernel
theorem dX7_isWell_18 : decode cX7_isWell 18 = .ok (.aload_n 0, 1) := by decide +kernel
theorem dX7_isWell_19 : decode cX7_isWell 19 = .ok (.getfield 10, 3) := by decide +kernel
theorem dX7_isWell_22 : decode cX7_isWell 22 = .ok (.invokevirtual 274, 3) := by decide +kernel
theorem dX7_isWell_25 : decode cX7_isWell 25 = .ok (.iadd, 1) := by decide +kernel
theorem dX7_isWell_26 : decode cX7_isWell 26 = .ok (.aload_n 0, 1) := by decide +kernel
theorem dX7_isWell_27 : decode cX7_isWell 27 = .ok (.getfield 10, 3) := by decide +kernel
theorem dX7_isWell_30 : decode cX7_isWell 30 = .ok (.getfield 276, 3) := by decide +kernel
theorem dX7_isWell_33 : decode cX7_isWell 33 = .ok (.iadd, 1) := by decide +kernel
theorem dX7_isWell_34 : decode cX7_isWell 34 = .ok (.aload_n 0, 1) := by decide +kernel
theorem dX7_isWell_35 : decode cX7_isWell 35 = .ok (.getfield 10, 3) := by decide +kernel
theorem dX7_isWell_38 : decode cX7_isWell 38 = .ok (.getfield 279, 3) := by decide +kernel
theorem dX7_isWell_41 : decode cX7_isWell 41 = .ok (.iadd, 1) := by decide +kernel
theorem dX7_isWell_42 : decode cX7_isWell 42 = .ok (.istore_n 1, 1) := by decide +kernel
theorem dX7_isWell_43 : decode cX7_isWell 43 = .ok (.aload_n 0, 1) := by decide +kernel
theorem dX7_isWell_44 : decode cX7_isWell 44 = .ok (.invokevirtual 282, 3) := by decide +kernel
theorem dX7_isWell_47 : decode cX7_isWell 47 = .ok (.ifCond .eq 30, 3) := by decide +kernel
theorem dX7_isWell_50 : decode cX7_isWell 50 = .ok (.aload_n 0, 1) := by decide +kernel
theorem dX7_isWell_51 : decode cX7_isWell 51 = .ok (.iconst 0, 1) := by decide +kernel
theorem dX7_isWell_52 : decode cX7_isWell 52 = .ok (.invokevirtual 199, 3) := by decide +kernel
theorem dX7_isWell_55 : decode cX7_isWell 55 = .ok (.aload_n 0, 1) := by decide +kernel
theorem dX7_isWell_56 : decode cX7_isWell 56 = .ok (.invokevirtual 196, 3) := by decide +kernel
theorem dX7_isWell_59 : decode cX7_isWell 59 = .ok (.if_icmp .ne 18, 3) := by decide +kernel
theorem dX7_isWell_62 : decode cX7_isWell 62 = .ok (.aload_n 0, 1) := by decide +kernel
theorem dX7_isWell_63 : decode cX7_isWell 63 = .ok (.getfield 10, 3) := by decide +kernel
theorem dX7_isWell_66 : decode cX7_isWell 66 = .ok (.getfield 286, 3) := by decide +kernel
theorem dX7_isWell_69 : decode cX7_isWell 69 = .ok (.iload_n 1, 1) := by decide +kernel
theorem dX7_isWell_70 : decode cX7_isWell 70 = .ok (.if_icmp .ne 7, 3) := by decide +kernel
theorem dX7_isWell_73 : decode cX7_isWell 73 = .ok (.iconst 1, 1) := by decide +kernel
theorem dX7_isWell_74 : decode cX7_isWell 74 = .ok (.goto 4, 3) := by decide +kernel
theorem dX7_isWell_77 : decode cX7_isWell 77 = .ok (.iconst 0, 1) := by decide +kernel
theorem dX7_isWell_78 : decode cX7_isWell 78 = .ok (.ireturn, 1) := by decide +kernel
set_option maxRecDepth 20000 in
theorem ggX7_meanGrey_X5_mondays : GoodIn wsX7_meanGrey wsX5_mondays := goodIn_ca (goodIn_r _ [8, 9, 10, 11, 12, 13, 14, 15, 16, 17, 18, 19, 20, 21, 22, 23, 24, 25, 26, 27, 28, 29, 53, 54, 55, 56, 57, 58, 59, 60, 61, 62, 63, 64, 65, 66, 67, 68, 69, 70, 71] (by decide +kernel) (by decide +kernel)) (goodIn_sub (fun _ h => List.mem_cons_of_mem _ (List.mem_append_right _ h)) (by decide +kernel))
set_option maxRecDepth 20000 in
theorem gX7_meanGrey_X5_mondays : GoodIn wsX7_meanGrey (wsV RX7 271 RX5 yX5_mondays wsX5_mondays) := goodIn_app (goodIn_of _ (by decide +kernel)) ggX7_meanGrey_X5_mondays
set_option maxRecDepth 20000 in
theorem ggX7_meanGrey_X5_greys : GoodIn wsX7_meanGrey wsX5_greys := goodIn_ca (goodIn_r _ [33, 9, 34, 35, 36, 15, 37, 17, 18, 19, 20, 21, 22, 23, 24, 25, 26, 27, 28, 29, 38, 39, 40, 41, 53, 54, 55, 56, 57, 58, 59, 60, 61, 62, 63, 64, 65, 66, 67, 68, 69, 70, 71] (by decide +kernel) (by decide +kernel)) (goodIn_sub (fun _ h => List.mem_cons_of_mem _ (List.mem_append_right _ h)) (by decide +kernel))
set_option maxRecDepth 20000 in
theorem gX7_meanGrey_X5_greys : GoodIn wsX7_meanGrey (wsV RX7 294 RX5 yX5_greys wsX5_greys) := goodIn_app (goodIn_of _ (by decide +kernel)) ggX7_meanGrey_X5_greys
theorem dX7_meanGrey_0 : decode cX7_meanGrey 0 = .ok (.aload_n 0, 1) := by decide +kernel
theorem dX7_meanGrey_1 : decode cX7_meanGrey 1 = .ok (.getfield 10, 3) := by decide +kernel
theorem dX7_meanGrey_4 : decode cX7_meanGrey 4 = .ok (.invokevirtual 271, 3) := by decide +kernel
theorem dX7_meanGrey_7 : decode cX7_meanGrey 7 = .ok (.istore_n 1, 1) := by decide +kernel
theorem dX7_meanGrey_8 : decode cX7_meanGrey 8 = .ok (.iload_n 1, 1) := by decide +kernel
theorem dX7_meanGrey_9 : decode cX7_meanGrey 9 = .ok (.ifCond .ne 14, 3) := by decide +kernel
theorem dX7_meanGrey_12 : decode cX7_meanGrey 12 = .ok (.new 289, 3) := by decide +kernel
theorem dX7_meanGrey_15 : decode cX7_meanGrey 15 = .ok (.dup, 1) := by decide +kernel
theorem dX7_meanGrey_16 : decode cX7_meanGrey 16 = .ok (.ldc_w 291, 3) := by decide +kernel
theorem dX7_meanGrey_19 : decode cX7_meanGrey 19 = .ok (.invokespecial 293, 3) := by decide +kernel
theorem dX7_meanGrey_22 : decode cX7_meanGrey 22 = .ok (.athrow, 1) := by decide +kernel
theorem dX7_meanGrey_23 : decode cX7_meanGrey 23 = .ok (.aload_n 0, 1) := by decide +kernel
theorem dX7_meanGrey_24 : decode cX7_meanGrey 24 = .ok (.getfield 10, 3) := by decide +kernel
theorem dX7_meanGrey_27 : decode cX7_meanGrey 27 = .ok (.invokevirtual 294, 3) := by decide +kernel
theorem dX7_meanGrey_30 : decode cX7_meanGrey 30 = .ok (.i2d, 1) := by decide +kernel
theorem dX7_meanGrey_31 : decode cX7_meanGrey 31 = .ok (.iload_n 1, 1) := by decide +kernel
theorem dX7_meanGrey_32 : decode cX7_meanGrey 32 = .ok (.i2d, 1) := by decide +kernel
theorem dX7_meanGrey_33 : decode cX7_meanGrey 33 = .ok (.ddiv, 1) := by decide +kernel
theorem dX7_meanGrey_34 : decode cX7_meanGrey 34 = .ok (.dreturn, 1) := by decide +kernel
set_option maxRecDepth 20000 in
theorem ggX7_stampShare_X5_inspected : GoodIn wsX7_stampShare wsX5_inspected := goodIn_r _ [8, 9, 10, 27, 28, 29, 30, 31, 32, 33, 34, 35, 36, 37, 38, 39, 40, 41, 42, 43] (by decide +kernel) (by decide +kernel)
set_option maxRecDepth 20000 in
theorem gX7_stampShare_X5_inspected : GoodIn wsX7_stampShare (wsV RX7 297 RX5 yX5_inspected wsX5_inspected) := goodIn_app (goodIn_of _ (by decide +kernel)) ggX7_stampShare_X5_inspected
set_option maxRecDepth 20000 in
theorem ggX7_stampShare_X5_stamped : GoodIn wsX7_stampShare wsX5_stamped := goodIn_r _ [14, 9, 15, 27, 28, 29, 30, 31, 32, 33, 34, 35, 36, 37, 38, 39, 40, 41, 42, 43] (by decide +kernel) (by decide +kernel)
set_option maxRecDepth 20000 in
theorem gX7_stampShare_X5_stamped : GoodIn wsX7_stampShare (wsV RX7 274 RX5 yX5_stamped wsX5_stamped) := goodIn_app (goodIn_of _ (by decide +kernel)) ggX7_stampShare_X5_stamped
theorem dX7_stampShare_0 : decode cX7_stampShare 0 = .ok (.aload_n 0, 1) := by decide +kernel
theorem dX7_stampShare_1 : decode cX7_stampShare 1 = .ok (.getfield 10, 3) := by decide +kernel
theorem dX7_stampShare_4 : decode cX7_stampShare 4 = .ok (.invokevirtual 297, 3) := by decide +kernel
theorem dX7_stampShare_7 : decode cX7_stampShare 7 = .ok (.istore_n 1, 1) := by decide +kernel
theorem dX7_stampShare_8 : decode cX7_stampShare 8 = .ok (.iload_n 1, 1) := by decide +kernel
theorem dX7_stampShare_9 : decode cX7_stampShare 9 = .ok (.ifCond .ne 14, 3) := by decide +kernel
theorem dX7_stampShare_12 : decode cX7_stampShare 12 = .ok (.new 289, 3) := by decide +kernel
theorem dX7_stampShare_15 : decode cX7_stampShare 15 = .ok (.dup, 1) := by decide +kernel
theorem dX7_stampShare_16 : decode cX7_stampShare 16 = .ok (.ldc_w 299, 3) := by decide +kernel
theorem dX7_stampShare_19 : decode cX7_stampShare 19 = .ok (.invokespecial 293, 3) := by decide +kernel
theorem dX7_stampShare_22 : decode cX7_stampShare 22 = .ok (.athrow, 1) := by decide +kernel
theorem dX7_stampShare_23 : decode cX7_stampShare 23 = .ok (.aload_n 0, 1) := by decide +kernel
theorem dX7_stampShare_24 : decode cX7_stampShare 24 = .ok (.getfield 10, 3) := by decide +kernel
theorem dX7_stampShare_27 : decode cX7_stampShare 27 = .ok (.invokevirtual 274, 3) := by decide +kernel
theorem dX7_stampShare_30 : decode cX7_stampShare 30 = .ok (.i2f, 1) := by decide +kernel
theorem dX7_stampShare_31 : decode cX7_stampShare 31 = .ok (.iload_n 1, 1) := by decide +kernel
theorem dX7_stampShare_32 : decode cX7_stampShare 32 = .ok (.i2f, 1) := by decide +kernel
theorem dX7_stampShare_33 : decode cX7_stampShare 33 = .ok (.fdiv, 1) := by decide +kernel
theorem dX7_stampShare_34 : decode cX7_stampShare 34 = .ok (.freturn, 1) := by decide +kernel
set_option maxRecDepth 20000 in
theorem ggX7_undo_X2_takeBack : GoodIn wsX7_undo wsX2_takeBack := goodIn_r _ [10, 11, 12, 13, 14, 15, 16, 17, 18, 19, 20, 21, 22, 23, 24, 25, 26, 27, 28, 29, 30, 31, 32, 33, 34, 35, 36, 37, 38, 39, 40, 41, 42, 43, 44, 45, 46, 47, 48, 49, 50, 51, 52, 53, 54, 55, 56, 57, 58, 59, 60, 72, 73, 74, 75, 76, 77, 78, 79, 80, 81, 82, 83, 84, 85, 86, 87, 88, 89, 90, 91, 92, 93, 94, 95] (by decide +kernel) (by decide +kernel)
set_option maxRecDepth 20000 in
theorem gX7_undo_X2_takeBack : GoodIn wsX7_undo (wsV RX7 303 RX2 yX2_takeBack wsX2_takeBack) := goodIn_app (goodIn_of _ (by decide +kernel)) ggX7_undo_X2_takeBack
theorem dX7_undo_0 : decode cX7_undo 0 = .ok (.aload_n 0, 1) := by decide +kernel
theorem dX7_undo_1 : decode cX7_undo 1 = .ok (.getfield 28, 3) := by decide +kernel
theorem dX7_undo_4 : decode cX7_undo 4 = .ok (.getfield 267, 3) := by decide +kernel
theorem dX7_undo_7 : decode cX7_undo 7 = .ok (.ifCond .ne 14, 3) := by decide +kernel
theorem dX7_undo_10 : decode cX7_undo 10 = .ok (.new 235, 3) := by decide +kernel
theorem dX7_undo_13 : decode cX7_undo 13 = .ok (.dup, 1) := by decide +kernel
theorem dX7_undo_14 : decode cX7_undo 14 = .ok (.ldc_w 301, 3) := by decide +kernel
theorem dX7_undo_17 : decode cX7_undo 17 = .ok (.invokespecial 239, 3) := by decide +kernel
theorem dX7_undo_20 : decode cX7_undo 20 = .ok (.athrow, 1) := by decide +kernel
theorem dX7_undo_21 : decode cX7_undo 21 = .ok (.aload_n 0, 1) := by decide +kernel
theorem dX7_undo_22 : decode cX7_undo 22 = .ok (.getfield 28, 3) := by decide +kernel
theorem dX7_undo_25 : decode cX7_undo 25 = .ok (.aload_n 0, 1) := by decide +kernel
theorem dX7_undo_26 : decode cX7_undo 26 = .ok (.getfield 10, 3) := by decide +kernel
theorem dX7_undo_29 : decode cX7_undo 29 = .ok (.invokevirtual 303, 3) := by decide +kernel
theorem dX7_undo_32 : decode cX7_undo 32 = .ok (.aload_n 0, 1) := by decide +kernel
theorem dX7_undo_33 : decode cX7_undo 33 = .ok (.getfield 28, 3) := by decide +kernel
theorem dX7_undo_36 : decode cX7_undo 36 = .ok (.getfield 267, 3) := by decide +kernel
theorem dX7_undo_39 : decode cX7_undo 39 = .ok (.ireturn, 1) := by decide +kernel
set_option maxRecDepth 20000 in
theorem ggX7_save_X5_copyFrom : GoodIn wsX7_save wsX5_copyFrom := goodIn_r _ [8, 9, 10, 11, 12, 13, 14, 15, 16, 17, 18, 19, 20, 21, 22, 23, 24, 25, 26, 27, 28, 29, 30, 31, 32, 33, 34, 35, 36, 37, 38, 39, 40, 41, 42, 43, 44, 45, 46, 47, 48, 49, 50, 68, 69, 70, 71, 72, 73, 74, 75, 76, 77, 78, 79, 80, 81, 82, 83, 84, 85, 86, 87, 88] (by decide +kernel) (by decide +kernel)
set_option maxRecDepth 20000 in
theorem gX7_save_X5_copyFrom : GoodIn wsX7_save (wsV RX7 161 RX5 yX5_copyFrom wsX5_copyFrom) := goodIn_app (goodIn_of _ (by decide +kernel)) ggX7_save_X5_copyFrom
set_option maxRecDepth 20000 in
theorem ggX7_save_X5_carriers : GoodIn wsX7_save wsX5_carriers := goodIn_r _ [54, 9, 55, 56, 68, 69, 70, 71, 72, 73, 74, 75, 76, 77, 78, 79, 80, 81, 82, 83, 84, 85, 86] (by decide +kernel) (by decide +kernel)
set_option maxRecDepth 20000 in
theorem gX7_save_X5_carriers : GoodIn wsX7_save (wsV RX7 306 RX5 yX5_carriers wsX5_carriers) := goodIn_app (goodIn_of _ (by decide +kernel)) ggX7_save_X5_carriers
theorem dX7_save_0 : decode cX7_save 0 = .ok (.aload_n 0, 1) := by decide +kernel
theorem dX7_save_1 : decode cX7_save 1 = .ok (.getfield 22, 3) := by decide +kernel
theorem dX7_save_4 : decode cX7_save 4 = .ok (.aload_n 0, 1) := by decide +kernel
theorem dX7_save_5 : decode cX7_save 5 = .ok (.getfield 10, 3) := by decide +kernel
theorem dX7_save_8 : decode cX7_save 8 = .ok (.invokevirtual 161, 3) := by decide +kernel
theorem dX7_save_11 : decode cX7_save 11 = .ok (.aload_n 0, 1) := by decide +kernel
theorem dX7_save_12 : decode cX7_save 12 = .ok (.iconst 1, 1) := by decide +kernel
theorem dX7_save_13 : decode cX7_save 13 = .ok (.putfield 46, 3) := by decide +kernel
theorem dX7_save_16 : decode cX7_save 16 = .ok (.aload_n 0, 1) := by decide +kernel
theorem dX7_save_17 : decode cX7_save 17 = .ok (.getfield 10, 3) := by decide +kernel
theorem dX7_save_20 : decode cX7_save 20 = .ok (.invokevirtual 306, 3) := by decide +kernel
theorem dX7_save_23 : decode cX7_save 23 = .ok (.ireturn, 1) := by decide +kernel
set_option maxRecDepth 20000 in
theorem ggX7_restore_X5_copyFrom : GoodIn wsX7_restore wsX5_copyFrom := goodIn_r _ [12, 13, 14, 15, 16, 17, 18, 19, 20, 21, 22, 23, 24, 25, 26, 27, 28, 29, 30, 31, 32, 33, 34, 35, 36, 37, 38, 39, 40, 41, 42, 43, 44, 45, 46, 47, 48, 49, 50, 51, 52, 53, 54, 75, 76, 77, 78, 79, 80, 81, 82, 83, 84, 85, 86, 87, 88, 89, 90, 91, 92, 93, 94, 95] (by decide +kernel) (by decide +kernel)
set_option maxRecDepth 20000 in
theorem gX7_restore_X5_copyFrom : GoodIn wsX7_restore (wsV RX7 161 RX5 yX5_copyFrom wsX5_copyFrom) := goodIn_app (goodIn_of _ (by decide +kernel)) ggX7_restore_X5_copyFrom
set_option maxRecDepth 20000 in
theorem ggX7_restore_X5_carriers : GoodIn wsX7_restore wsX5_carriers := goodIn_r _ [58, 13, 59, 60, 75, 76, 77, 78, 79, 80, 81, 82, 83, 84, 85, 86, 87, 88, 89, 90, 91, 92, 93] (by decide +kernel) (by decide +kernel)
set_option maxRecDepth 20000 in
theorem gX7_restore_X5_carriers : GoodIn wsX7_restore (wsV RX7 306 RX5 yX5_carriers wsX5_carriers) := goodIn_app (goodIn_of _ (by decide +kernel)) ggX7_restore_X5_carriers
theorem dX7_restore_0 : decode cX7_restore 0 = .ok (.aload_n 0, 1) := by decide +kernel
theorem dX7_restore_1 : decode cX7_restore 1 = .ok (.getfield 46, 3) := by decide +kernel
theorem dX7_restore_4 : decode cX7_restore 4 = .ok (.ifCond .ne 14, 3) := by decide +kernel
theorem dX7_restore_7 : decode cX7_restore 7 = .ok (.new 235, 3) := by decide +kernel
theorem dX7_restore_10 : decode cX7_restore 10 = .ok (.dup, 1) := by decide +kernel
theorem dX7_restore_11 : decode cX7_restore 11 = .ok (.ldc_w 309, 3) := by decide +kernel
theorem dX7_restore_14 : decode cX7_restore 14 = .ok (.invokespecial 239, 3) := by decide +kernel
theorem dX7_restore_17 : decode cX7_restore 17 = .ok (.athrow, 1) := by decide +kernel
theorem dX7_restore_18 : decode cX7_restore 18 = .ok (.aload_n 0, 1) := by decide +kernel
theorem dX7_restore_19 : decode cX7_restore 19 = .ok (.getfield 10, 3) := by decide +kernel
theorem dX7_restore_22 : decode cX7_restore 22 = .ok (.aload_n 0, 1) := by decide +kernel
theorem dX7_restore_23 : decode cX7_restore 23 = .ok (.getfield 22, 3) := by decide +kernel
theorem dX7_restore_26 : decode cX7_restore 26 = .ok (.invokevirtual 161, 3) := by decide +kernel
theorem dX7_restore_29 : decode cX7_restore 29 = .ok (.aload_n 0, 1) := by decide +kernel
theorem dX7_restore_30 : decode cX7_restore 30 = .ok (.getfield 28, 3) := by decide +kernel
theorem dX7_restore_33 : decode cX7_restore 33 = .ok (.iconst 0, 1) := by decide +kernel
theorem dX7_restore_34 : decode cX7_restore 34 = .ok (.putfield 267, 3) := by decide +kernel
theorem dX7_restore_37 : decode cX7_restore 37 = .ok (.aload_n 0, 1) := by decide +kernel
theorem dX7_restore_38 : decode cX7_restore 38 = .ok (.getfield 10, 3) := by decide +kernel
theorem dX7_restore_41 : decode cX7_restore 41 = .ok (.invokevirtual 306, 3) := by decide +kernel
theorem dX7_restore_44 : decode cX7_restore 44 = .ok (.ireturn, 1) := by decide +kernel
set_option maxRecDepth 20000 in
theorem ggX7_change_X5_verdictOn : GoodIn wsX7_change wsX5_verdictOn := goodIn_ca (goodIn_r _ [13, 14, 15, 16, 17, 18, 19, 20, 21, 22, 23, 24, 25, 26, 27, 28, 29, 30, 31, 12, 32, 33, 34, 35, 36, 37, 38, 39, 40, 41, 42, 43, 44, 45, 46, 47, 48, 49, 50, 51, 52, 53, 54, 55, 56, 57, 58, 261, 262, 263, 264, 265, 266, 267, 268, 269, 270, 271, 272, 273, 274, 275, 276, 277, 278, 279, 280, 281] (by decide +kernel) (by decide +kernel)) (goodIn_sub (fun _ h => List.mem_cons_of_mem _ (List.mem_append_right _ h)) (by decide +kernel))
set_option maxRecDepth 20000 in
theorem gX7_change_X5_verdictOn : GoodIn wsX7_change (wsV RX7 311 RX5 yX5_verdictOn wsX5_verdictOn) := goodIn_app (goodIn_of _ (by decide +kernel)) ggX7_change_X5_verdictOn
set_option maxRecDepth 20000 in
theorem ggX7_change_X7_keepReason : GoodIn wsX7_change wsX7_keepReason := goodIn_ca (goodIn_r _ [62, 63, 7, 64, 65, 66, 67, 12, 68, 38, 57, 69, 33, 41, 42, 43, 44, 16, 45, 46, 47, 26, 48, 28, 49, 250, 251, 252, 253, 254, 255, 256, 257, 258, 259, 260, 261, 262, 263, 264, 265, 266, 267, 268, 269, 270, 271, 276, 277, 278, 279, 280, 281, 274, 275] (by decide +kernel) (by decide +kernel)) (goodIn_sub (fun _ h => List.mem_cons_of_mem _ (List.mem_append_right _ h)) (by decide +kernel))
set_option maxRecDepth 20000 in
theorem gX7_change_X7_keepReason : GoodIn wsX7_change (wsV RX7 318 RX7 yX7_keepReason wsX7_keepReason) := goodIn_app (goodIn_of _ (by decide +kernel)) ggX7_change_X7_keepReason
set_option maxRecDepth 20000 in
theorem ggX7_change_X2_remember : GoodIn wsX7_change wsX2_remember := goodIn_r _ [74, 75, 76, 77, 78, 79, 80, 81, 82, 83, 84, 12, 85, 38, 16, 14, 33, 69, 86, 87, 88, 89, 90, 91, 92, 93, 94, 95, 96, 97, 98, 99, 100, 101, 102, 103, 104, 105, 26, 106, 28, 49, 107, 108, 109, 110, 111, 112, 113, 114, 20, 115, 22, 116, 117, 282, 283, 284, 261, 262, 263, 264, 265, 266, 267, 268, 269, 270, 271, 276, 277, 278, 279, 280, 281, 274, 275, 272, 273] (by decide +kernel) (by decide +kernel)
set_option maxRecDepth 20000 in
theorem gX7_change_X2_remember : GoodIn wsX7_change (wsV RX7 259 RX2 yX2_remember wsX2_remember) := goodIn_app (goodIn_of _ (by decide +kernel)) ggX7_change_X2_remember
set_option maxRecDepth 20000 in
theorem ggX7_change_X5_carryOut : GoodIn wsX7_change wsX5_carryOut := goodIn_ca (goodIn_r _ [121, 38, 14, 122, 123, 124, 12, 125, 86, 126, 127, 128, 129, 39, 40, 130, 131, 132, 26, 133, 28, 49, 134, 135, 136, 57, 58, 137, 138, 139, 140, 141, 142, 143, 20, 144, 22, 145, 146, 147, 148, 116, 149, 150, 151, 152, 153, 46, 47, 48, 154, 155, 156, 157, 158, 79, 80, 81, 159, 160, 161, 162, 18, 19, 21, 163, 164, 165, 166, 167, 168, 169, 170, 171, 172, 173, 174, 175, 176, 177, 178, 179, 180, 181, 182, 183, 184, 185, 186, 187, 95, 188, 98, 99, 100, 189, 190, 191, 192, 193, 194, 195, 87, 16, 88, 45, 196, 197, 198, 199, 107, 108, 109, 110, 200, 201, 202, 203, 204, 205, 206, 207, 117, 208, 209, 210, 211, 212, 33, 89, 90, 213, 214, 215, 216, 217, 218, 219, 220, 221, 222, 223, 224, 225, 91, 41, 42, 43, 44, 226, 227, 228, 229, 230, 231, 232, 233, 234, 235, 236, 237, 238, 69, 239, 240, 241, 242, 243, 244, 245, 246, 247, 248, 249, 261, 262, 263, 264, 265, 266, 267, 268, 269, 270, 271, 276, 277, 278, 279, 280, 281, 274, 275, 272, 273] (by decide +kernel) (by decide +kernel)) (goodIn_sub (fun _ h => List.mem_cons_of_mem _ (List.mem_append_right _ h)) (by decide +kernel))
set_option maxRecDepth 20000 in
theorem gX7_change_X5_carryOut : GoodIn wsX7_change (wsV RX7 324 RX5 yX5_carryOut wsX5_carryOut) := goodIn_app (goodIn_of _ (by decide +kernel)) ggX7_change_X5_carryOut
theorem dX7_change_0 : decode cX7_change 0 = .ok (.aload_n 0, 1) := by decide +kernel
theorem dX7_change_1 : decode cX7_change 1 = .ok (.getfield 10, 3) := by decide +kernel
theorem dX7_change_4 : decode cX7_change 4 = .ok (.iload_n 1, 1) := by decide +kernel
theorem dX7_change_5 : decode cX7_change 5 = .ok (.iload_n 2, 1) := by decide +kernel
theorem dX7_change_6 : decode cX7_change 6 = .ok (.iload_n 3, 1) := by decide +kernel
theorem dX7_change_7 : decode cX7_change 7 = .ok (.iload 4, 2) := by decide +kernel
theorem dX7_change_9 : decode cX7_change 9 = .ok (.invokevirtual 311, 3) := by decide +kernel
theorem dX7_change_12 : decode cX7_change 12 = .ok (.istore 5, 2) := by decide +kernel
theorem dX7_change_14 : decode cX7_change 14 = .ok (.iload 5, 2) := by decide +kernel
theorem dX7_change_16 : decode cX7_change 16 = .ok (.bipush 6, 2) := by decide +kernel
theorem dX7_change_18 : decode cX7_change 18 = .ok (.if_icmp .ne 14, 3) := by decide +kernel
theorem dX7_change_21 : decode cX7_change 21 = .ok (.new 126, 3) := by decide +kernel
theorem dX7_change_24 : decode cX7_change 24 = .ok (.dup, 1) := by decide +kernel
theorem dX7_change_25 : decode cX7_change 25 = .ok (.ldc_w 314, 3) := by decide +kernel
theorem dX7_change_28 : decode cX7_change 28 = .ok (.invokespecial 130, 3) := by decide +kernel
theorem dX7_change_31 : decode cX7_change 31 = .ok (.athrow, 1) := by decide +kernel
theorem dX7_change_32 : decode cX7_change 32 = .ok (.iload 5, 2) := by decide +kernel
theorem dX7_change_34 : decode cX7_change 34 = .ok (.bipush 7, 2) := by decide +kernel
theorem dX7_change_36 : decode cX7_change 36 = .ok (.if_icmp .ne 14, 3) := by decide +kernel
theorem dX7_change_39 : decode cX7_change 39 = .ok (.new 137, 3) := by decide +kernel
theorem dX7_change_42 : decode cX7_change 42 = .ok (.dup, 1) := by decide +kernel
theorem dX7_change_43 : decode cX7_change 43 = .ok (.ldc_w 316, 3) := by decide +kernel
theorem dX7_change_46 : decode cX7_change 46 = .ok (.invokespecial 141, 3) := by decide +kernel
theorem dX7_change_49 : decode cX7_change 49 = .ok (.athrow, 1) := by decide +kernel
theorem dX7_change_50 : decode cX7_change 50 = .ok (.iload 5, 2) := by decide +kernel
theorem dX7_change_52 : decode cX7_change 52 = .ok (.ifCond .eq 22, 3) := by decide +kernel
theorem dX7_change_55 : decode cX7_change 55 = .ok (.aload_n 0, 1) := by decide +kernel
theorem dX7_change_56 : decode cX7_change 56 = .ok (.iload 5, 2) := by decide +kernel
theorem dX7_change_58 : decode cX7_change 58 = .ok (.iload_n 1, 1) := by decide +kernel
theorem dX7_change_59 : decode cX7_change 59 = .ok (.iload_n 2, 1) := by decide +kernel
theorem dX7_change_60 : decode cX7_change 60 = .ok (.invokevirtual 318, 3) := by decide +kernel
theorem dX7_change_63 : decode cX7_change 63 = .ok (.new 254, 3) := by decide +kernel
theorem dX7_change_66 : decode cX7_change 66 = .ok (.dup, 1) := by decide +kernel
theorem dX7_change_67 : decode cX7_change 67 = .ok (.ldc_w 322, 3) := by decide +kernel
theorem dX7_change_70 : decode cX7_change 70 = .ok (.invokespecial 258, 3) := by decide +kernel
theorem dX7_change_73 : decode cX7_change 73 = .ok (.athrow, 1) := by decide +kernel
theorem dX7_change_74 : decode cX7_change 74 = .ok (.aload_n 0, 1) := by decide +kernel
theorem dX7_change_75 : decode cX7_change 75 = .ok (.getfield 28, 3) := by decide +kernel
theorem dX7_change_78 : decode cX7_change 78 = .ok (.aload_n 0, 1) := by decide +kernel
theorem dX7_change_79 : decode cX7_change 79 = .ok (.getfield 10, 3) := by decide +kernel
theorem dX7_change_82 : decode cX7_change 82 = .ok (.invokevirtual 259, 3) := by decide +kernel
theorem dX7_change_85 : decode cX7_change 85 = .ok (.aload_n 0, 1) := by decide +kernel
theorem dX7_change_86 : decode cX7_change 86 = .ok (.getfield 10, 3) := by decide +kernel
theorem dX7_change_89 : decode cX7_change 89 = .ok (.iload_n 1, 1) := by decide +kernel
theorem dX7_change_90 : decode cX7_change 90 = .ok (.iload_n 2, 1) := by decide +kernel
theorem dX7_change_91 : decode cX7_change 91 = .ok (.iload_n 3, 1) := by decide +kernel
theorem dX7_change_92 : decode cX7_change 92 = .ok (.iload 4, 2) := by decide +kernel
theorem dX7_change_94 : decode cX7_change 94 = .ok (.invokevirtual 324, 3) := by decide +kernel
theorem dX7_change_97 : decode cX7_change 97 = .ok (.ireturn, 1) := by decide +kernel
set_option maxRecDepth 20000 in
theorem ggX7_carryOutText_X3_signAt : GoodIn wsX7_carryOutText wsX3_signAt := goodIn_ca (goodIn_r _ [7, 8, 243, 244] (by decide +kernel) (by decide +kernel)) (goodIn_sub (fun _ h => List.mem_cons_of_mem _ (List.mem_append_right _ h)) (by decide +kernel))
set_option maxRecDepth 20000 in
theorem gX7_carryOutText_X3_signAt : GoodIn wsX7_carryOutText (wsV RX7 327 RX3 yX3_signAt wsX3_signAt) := goodIn_app (goodIn_of _ (by decide +kernel)) ggX7_carryOutText_X3_signAt
set_option maxRecDepth 20000 in
theorem ggX7_carryOutText_X3_numbersOf : GoodIn wsX7_carryOutText wsX3_numbersOf := goodIn_r _ [11] (by decide +kernel) (by decide +kernel)
set_option maxRecDepth 20000 in
theorem gX7_carryOutText_X3_numbersOf : GoodIn wsX7_carryOutText (va_wsS RX7 331 yX3_numbersOf wsX3_numbersOf) := goodIn_app (goodIn_of _ (by decide +kernel)) ggX7_carryOutText_X3_numbersOf
set_option maxRecDepth 20000 in
theorem ggX7_carryOutText_X3_numberAt : GoodIn wsX7_carryOutText wsX3_numberAt := goodIn_ca (goodIn_r _ [15, 16, 4, 5, 6, 7, 8, 17, 18, 19, 243, 244] (by decide +kernel) (by decide +kernel)) (goodIn_sub (fun _ h => List.mem_cons_of_mem _ (List.mem_append_right _ h)) (by decide +kernel))
set_option maxRecDepth 20000 in
theorem gX7_carryOutText_X3_numberAt : GoodIn wsX7_carryOutText (wsV RX7 335 RX3 yX3_numberAt wsX3_numberAt) := goodIn_app (goodIn_of _ (by decide +kernel)) ggX7_carryOutText_X3_numberAt
set_option maxRecDepth 20000 in
theorem ggX7_carryOutText_X5_verdictOn : GoodIn wsX7_carryOutText wsX5_verdictOn := goodIn_ca (goodIn_r _ [24, 25, 26, 27, 28, 29, 30, 31, 32, 33, 34, 35, 36, 37, 38, 39, 40, 41, 42, 23, 43, 44, 45, 46, 47, 48, 49, 50, 51, 52, 53, 54, 55, 56, 57, 58, 59, 60, 61, 62, 63, 64, 65, 66, 67, 68, 69, 245, 246, 247, 248, 249, 250, 251, 252, 253, 254, 255, 256, 257, 258, 259, 260, 261, 262, 263, 264, 265] (by decide +kernel) (by decide +kernel)) (goodIn_sub (fun _ h => List.mem_cons_of_mem _ (List.mem_append_right _ h)) (by decide +kernel))
set_option maxRecDepth 20000 in
theorem gX7_carryOutText_X5_verdictOn : GoodIn wsX7_carryOutText (wsV RX7 311 RX5 yX5_verdictOn wsX5_verdictOn) := goodIn_app (goodIn_of _ (by decide +kernel)) ggX7_carryOutText_X5_verdictOn
set_option maxRecDepth 20000 in
theorem ggX7_carryOutText_X7_keepReason : GoodIn wsX7_carryOutText wsX7_keepReason := goodIn_ca (goodIn_r _ [73, 74, 2, 75, 76, 77, 78, 23, 79, 49, 68, 80, 44, 52, 53, 54, 55, 27, 56, 57, 58, 37, 59, 39, 60, 232, 233, 234, 235, 236, 237, 238, 239, 240, 241, 242, 245, 246, 247, 248, 249, 250, 251, 252, 253, 254, 255, 260, 261, 262, 263, 264, 265, 258, 259] (by decide +kernel) (by decide +kernel)) (goodIn_sub (fun _ h => List.mem_cons_of_mem _ (List.mem_append_right _ h)) (by decide +kernel))
set_option maxRecDepth 20000 in
theorem gX7_carryOutText_X7_keepReason : GoodIn wsX7_carryOutText (wsV RX7 318 RX7 yX7_keepReason wsX7_keepReason) := goodIn_app (goodIn_of _ (by decide +kernel)) ggX7_carryOutText_X7_keepReason
set_option maxRecDepth 20000 in
theorem ggX7_carryOutText_X5_carryOut : GoodIn wsX7_carryOutText wsX5_carryOut := goodIn_ca (goodIn_r _ [84, 49, 25, 85, 86, 87, 23, 88, 89, 90, 91, 92, 93, 50, 51, 94, 95, 96, 37, 97, 39, 60, 98, 99, 100, 68, 69, 101, 102, 103, 104, 105, 106, 107, 31, 108, 33, 109, 110, 111, 112, 113, 114, 115, 116, 117, 118, 57, 58, 59, 119, 120, 121, 122, 123, 124, 125, 126, 127, 128, 129, 130, 29, 30, 32, 131, 132, 133, 134, 135, 136, 137, 138, 139, 140, 141, 142, 143, 144, 145, 146, 147, 148, 149, 150, 151, 152, 153, 154, 155, 156, 157, 158, 159, 160, 161, 162, 163, 164, 165, 166, 167, 168, 27, 169, 56, 170, 171, 172, 173, 174, 175, 176, 177, 178, 179, 180, 181, 182, 183, 184, 185, 186, 187, 188, 189, 190, 191, 44, 192, 193, 194, 195, 196, 197, 198, 199, 200, 201, 202, 203, 204, 205, 206, 207, 52, 53, 54, 55, 208, 209, 210, 211, 212, 213, 214, 215, 216, 217, 218, 219, 220, 80, 221, 222, 223, 224, 225, 226, 227, 228, 229, 230, 231, 245, 246, 247, 248, 249, 250, 251, 252, 253, 254, 255, 260, 261, 262, 263, 264, 265, 258, 259, 256, 257] (by decide +kernel) (by decide +kernel)) (goodIn_sub (fun _ h => List.mem_cons_of_mem _ (List.mem_append_right _ h)) (by decide +kernel))
set_option maxRecDepth 20000 in
theorem gX7_carryOutText_X5_carryOut : GoodIn wsX7_carryOutText (wsV RX7 324 RX5 yX5_carryOut wsX5_carryOut) := goodIn_app (goodIn_of _ (by decide +kernel)) ggX7_carryOutText_X5_carryOut
theorem dX7_carryOutText_0 : decode cX7_carryOutText 0 = .ok (.iconst 0, 1) := by decide +kernel
theorem dX7_carryOutText_1 : decode cX7_carryOutText 1 = .ok (.istore_n 2, 1) := by decide +kernel
theorem dX7_carryOutText_2 : decode cX7_carryOutText 2 = .ok (.iload_n 2, 1) := by decide +kernel
theorem dX7_carryOutText_3 : decode cX7_carryOutText 3 = .ok (.iload_n 1, 1) := by decide +kernel
theorem dX7_carryOutText_4 : decode cX7_carryOutText 4 = .ok (.if_icmp .ge 111, 3) := by decide +kernel
theorem dX7_carryOutText_7 : decode cX7_carryOutText 7 = .ok (.aload_n 0, 1) := by decide +kernel
theorem dX7_carryOutText_8 : decode cX7_carryOutText 8 = .ok (.getfield 35, 3) := by decide +kernel
theorem dX7_carryOutText_11 : decode cX7_carryOutText 11 = .ok (.iload_n 2, 1) := by decide +kernel
theorem dX7_carryOutText_12 : decode cX7_carryOutText 12 = .ok (.invokevirtual 327, 3) := by decide +kernel
theorem dX7_carryOutText_15 : decode cX7_carryOutText 15 = .ok (.istore_n 3, 1) := by decide +kernel
theorem dX7_carryOutText_16 : decode cX7_carryOutText 16 = .ok (.iload_n 3, 1) := by decide +kernel
theorem dX7_carryOutText_17 : decode cX7_carryOutText 17 = .ok (.invokestatic 331, 3) := by decide +kernel
theorem dX7_carryOutText_20 : decode cX7_carryOutText 20 = .ok (.bipush (-2), 2) := by decide +kernel
theorem dX7_carryOutText_22 : decode cX7_carryOutText 22 = .ok (.if_icmp .eq 87, 3) := by decide +kernel
theorem dX7_carryOutText_25 : decode cX7_carryOutText 25 = .ok (.aload_n 0, 1) := by decide +kernel
theorem dX7_carryOutText_26 : decode cX7_carryOutText 26 = .ok (.getfield 35, 3) := by decide +kernel
theorem dX7_carryOutText_29 : decode cX7_carryOutText 29 = .ok (.iload_n 2, 1) := by decide +kernel
theorem dX7_carryOutText_30 : decode cX7_carryOutText 30 = .ok (.iconst 1, 1) := by decide +kernel
theorem dX7_carryOutText_31 : decode cX7_carryOutText 31 = .ok (.iadd, 1) := by decide +kernel
theorem dX7_carryOutText_32 : decode cX7_carryOutText 32 = .ok (.invokevirtual 335, 3) := by decide +kernel
theorem dX7_carryOutText_35 : decode cX7_carryOutText 35 = .ok (.istore 4, 2) := by decide +kernel
theorem dX7_carryOutText_37 : decode cX7_carryOutText 37 = .ok (.aload_n 0, 1) := by decide +kernel
theorem dX7_carryOutText_38 : decode cX7_carryOutText 38 = .ok (.getfield 35, 3) := by decide +kernel
theorem dX7_carryOutText_41 : decode cX7_carryOutText 41 = .ok (.iload_n 2, 1) := by decide +kernel
theorem dX7_carryOutText_42 : decode cX7_carryOutText 42 = .ok (.iconst 2, 1) := by decide +kernel
theorem dX7_carryOutText_43 : decode cX7_carryOutText 43 = .ok (.iadd, 1) := by decide +kernel
theorem dX7_carryOutText_44 : decode cX7_carryOutText 44 = .ok (.invokevirtual 335, 3) := by decide +kernel
theorem dX7_carryOutText_47 : decode cX7_carryOutText 47 = .ok (.istore 5, 2) := by decide +kernel
theorem dX7_carryOutText_49 : decode cX7_carryOutText 49 = .ok (.aload_n 0, 1) := by decide +kernel
theorem dX7_carryOutText_50 : decode cX7_carryOutText 50 = .ok (.getfield 35, 3) := by decide +kernel
theorem dX7_carryOutText_53 : decode cX7_carryOutText 53 = .ok (.iload_n 2, 1) := by decide +kernel
theorem dX7_carryOutText_54 : decode cX7_carryOutText 54 = .ok (.iconst 3, 1) := by decide +kernel
theorem dX7_carryOutText_55 : decode cX7_carryOutText 55 = .ok (.iadd, 1) := by decide +kernel
theorem dX7_carryOutText_56 : decode cX7_carryOutText 56 = .ok (.invokevirtual 335, 3) := by decide +kernel
theorem dX7_carryOutText_59 : decode cX7_carryOutText 59 = .ok (.istore 6, 2) := by decide +kernel
theorem dX7_carryOutText_61 : decode cX7_carryOutText 61 = .ok (.aload_n 0, 1) := by decide +kernel
theorem dX7_carryOutText_62 : decode cX7_carryOutText 62 = .ok (.getfield 10, 3) := by decide +kernel
theorem dX7_carryOutText_65 : decode cX7_carryOutText 65 = .ok (.iload_n 3, 1) := by decide +kernel
theorem dX7_carryOutText_66 : decode cX7_carryOutText 66 = .ok (.iload 4, 2) := by decide +kernel
theorem dX7_carryOutText_68 : decode cX7_carryOutText 68 = .ok (.iload 5, 2) := by decide +kernel
theorem dX7_carryOutText_70 : decode cX7_carryOutText 70 = .ok (.iload 6, 2) := by decide +kernel
theorem dX7_carryOutText_72 : decode cX7_carryOutText 72 = .ok (.invokevirtual 311, 3) := by decide +kernel
theorem dX7_carryOutText_75 : decode cX7_carryOutText 75 = .ok (.istore 7, 2) := by decide +kernel
theorem dX7_carryOutText_77 : decode cX7_carryOutText 77 = .ok (.iload 7, 2) := by decide +kernel
theorem dX7_carryOutText_79 : decode cX7_carryOutText 79 = .ok (.ifCond .eq 15, 3) := by decide +kernel
theorem dX7_carryOutText_82 : decode cX7_carryOutText 82 = .ok (.aload_n 0, 1) := by decide +kernel
theorem dX7_carryOutText_83 : decode cX7_carryOutText 83 = .ok (.iload 7, 2) := by decide +kernel
theorem dX7_carryOutText_85 : decode cX7_carryOutText 85 = .ok (.iload_n 3, 1) := by decide +kernel
theorem dX7_carryOutText_86 : decode cX7_carryOutText 86 = .ok (.iload 4, 2) := by decide +kernel
theorem dX7_carryOutText_88 : decode cX7_carryOutText 88 = .ok (.invokevirtual 318, 3) := by decide +kernel
theorem dX7_carryOutText_91 : decode cX7_carryOutText 91 = .ok (.iload 7, 2) := by decide +kernel
theorem dX7_carryOutText_93 : decode cX7_carryOutText 93 = .ok (.ireturn, 1) := by decide +kernel
theorem dX7_carryOutText_94 : decode cX7_carryOutText 94 = .ok (.aload_n 0, 1) := by decide +kernel
theorem dX7_carryOutText_95 : decode cX7_carryOutText 95 = .ok (.getfield 10, 3) := by decide +kernel
theorem dX7_carryOutText_98 : decode cX7_carryOutText 98 = .ok (.iload_n 3, 1) := by decide +kernel
theorem dX7_carryOutText_99 : decode cX7_carryOutText 99 = .ok (.iload 4, 2) := by decide +kernel
theorem dX7_carryOutText_101 : decode cX7_carryOutText 101 = .ok (.iload 5, 2) := by decide +kernel
theorem dX7_carryOutText_103 : decode cX7_carryOutText 103 = .ok (.iload 6, 2) := by decide +kernel
theorem dX7_carryOutText_105 : decode cX7_carryOutText 105 = .ok (.invokevirtual 324, 3) := by decide +kernel
theorem dX7_carryOutText_108 : decode cX7_carryOutText 108 = .ok (.pop, 1) := by decide +kernel
theorem dX7_carryOutText_109 : decode cX7_carryOutText 109 = .ok (.iinc 2 1, 3) := by decide +kernel
theorem dX7_carryOutText_112 : decode cX7_carryOutText 112 = .ok (.goto (-110), 3) := by decide +kernel
theorem dX7_carryOutText_115 : decode cX7_carryOutText 115 = .ok (.iconst 0, 1) := by decide +kernel
theorem dX7_carryOutText_116 : decode cX7_carryOutText 116 = .ok (.ireturn, 1) := by decide +kernel
set_option maxRecDepth 20000 in
theorem ggX7_keepReason_X5_detailOf : GoodIn wsX7_keepReason wsX5_detailOf := goodIn_ca (goodIn_r _ [8, 9, 10, 11, 12, 13, 14, 15, 7, 16, 17, 18, 19, 20, 21, 22, 23, 24, 36, 37, 38, 39, 40, 41, 42, 43, 44, 45, 46, 47, 48, 49, 50, 51, 52, 53, 54] (by decide +kernel) (by decide +kernel)) (goodIn_sub (fun _ h => List.mem_cons_of_mem _ (List.mem_append_right _ h)) (by decide +kernel))
set_option maxRecDepth 20000 in
theorem gX7_keepReason_X5_detailOf : GoodIn wsX7_keepReason (wsV RX7 338 RX5 yX5_detailOf wsX5_detailOf) := goodIn_app (goodIn_of _ (by decide +kernel)) ggX7_keepReason_X5_detailOf
theorem dX7_keepReason_0 : decode cX7_keepReason 0 = .ok (.iload_n 1, 1) := by decide +kernel
theorem dX7_keepReason_1 : decode cX7_keepReason 1 = .ok (.iconst 1, 1) := by decide +kernel
theorem dX7_keepReason_2 : decode cX7_keepReason 2 = .ok (.if_icmp .lt 27, 3) := by decide +kernel
theorem dX7_keepReason_5 : decode cX7_keepReason 5 = .ok (.iload_n 1, 1) := by decide +kernel
theorem dX7_keepReason_6 : decode cX7_keepReason 6 = .ok (.iconst 5, 1) := by decide +kernel
theorem dX7_keepReason_7 : decode cX7_keepReason 7 = .ok (.if_icmp .gt 22, 3) := by decide +kernel
theorem dX7_keepReason_10 : decode cX7_keepReason 10 = .ok (.aload_n 0, 1) := by decide +kernel
theorem dX7_keepReason_11 : decode cX7_keepReason 11 = .ok (.iload_n 1, 1) := by decide +kernel
theorem dX7_keepReason_12 : decode cX7_keepReason 12 = .ok (.putfield 54, 3) := by decide +kernel
theorem dX7_keepReason_15 : decode cX7_keepReason 15 = .ok (.aload_n 0, 1) := by decide +kernel
theorem dX7_keepReason_16 : decode cX7_keepReason 16 = .ok (.aload_n 0, 1) := by decide +kernel
theorem dX7_keepReason_17 : decode cX7_keepReason 17 = .ok (.getfield 10, 3) := by decide +kernel
theorem dX7_keepReason_20 : decode cX7_keepReason 20 = .ok (.iload_n 1, 1) := by decide +kernel
theorem dX7_keepReason_21 : decode cX7_keepReason 21 = .ok (.iload_n 2, 1) := by decide +kernel
theorem dX7_keepReason_22 : decode cX7_keepReason 22 = .ok (.iload_n 3, 1) := by decide +kernel
theorem dX7_keepReason_23 : decode cX7_keepReason 23 = .ok (.invokevirtual 338, 3) := by decide +kernel
theorem dX7_keepReason_26 : decode cX7_keepReason 26 = .ok (.putfield 57, 3) := by decide +kernel
theorem dX7_keepReason_29 : decode cX7_keepReason 29 = .ok (.return_, 1) := by decide +kernel
set_option maxRecDepth 20000 in
theorem ggX7_failInThought_X5_copyFrom : GoodIn wsX7_failInThought wsX5_copyFrom := goodIn_r _ [9, 10, 11, 12, 13, 14, 15, 16, 17, 18, 19, 20, 21, 22, 23, 24, 25, 26, 27, 28, 29, 30, 31, 32, 33, 34, 35, 36, 37, 38, 39, 40, 41, 42, 43, 44, 45, 46, 47, 48, 49, 50, 51, 143, 144, 145, 146, 147, 148, 149, 150, 151, 152, 153, 154, 155, 156, 157, 158, 159, 160, 161, 162, 163] (by decide +kernel) (by decide +kernel)
set_option maxRecDepth 20000 in
theorem gX7_failInThought_X5_copyFrom : GoodIn wsX7_failInThought (wsV RX7 161 RX5 yX5_copyFrom wsX5_copyFrom) := goodIn_app (goodIn_of _ (by decide +kernel)) ggX7_failInThought_X5_copyFrom
set_option maxRecDepth 20000 in
theorem ggX7_failInThought_X6_cut : GoodIn wsX7_failInThought wsX6_cut := goodIn_r _ [55, 37, 38, 39, 40, 41, 42, 160, 161] (by decide +kernel) (by decide +kernel)
set_option maxRecDepth 20000 in
theorem gX7_failInThought_X6_cut : GoodIn wsX7_failInThought (wsV RX7 342 RX6 yX6_cut wsX6_cut) := goodIn_app (goodIn_of _ (by decide +kernel)) ggX7_failInThought_X6_cut
set_option maxRecDepth 20000 in
theorem ggX7_failInThought_X5_inspectFront : GoodIn wsX7_failInThought wsX5_inspectFront := goodIn_ca (goodIn_r _ [59, 10, 12, 60, 61, 62, 63, 47, 64, 49, 65, 66, 67, 68, 50, 69, 70, 71, 35, 72, 73, 74, 75, 76, 37, 38, 77, 78, 79, 80, 81, 82, 83, 84, 85, 86, 87, 88, 89, 90, 91, 92, 93, 94, 8, 95, 96, 97, 98, 99, 100, 101, 102, 103, 104, 105, 106, 107, 108, 109, 110, 111, 112, 113, 114, 115, 116, 24, 117, 27, 28, 29, 118, 119, 120, 121, 122, 123, 124, 16, 11, 125, 17, 126, 127, 128, 129, 130, 131, 53, 54, 55, 39, 40, 41, 42, 143, 144, 145, 146, 147, 148, 149, 150, 151, 152, 153, 154, 155, 156, 157, 158, 159, 162, 163, 160, 161] (by decide +kernel) (by decide +kernel)) (goodIn_sub (fun _ h => List.mem_cons_of_mem _ (List.mem_append_right _ h)) (by decide +kernel))
set_option maxRecDepth 20000 in
theorem gX7_failInThought_X5_inspectFront : GoodIn wsX7_failInThought (wsV RX7 165 RX5 yX5_inspectFront wsX5_inspectFront) := goodIn_app (goodIn_of _ (by decide +kernel)) ggX7_failInThought_X5_inspectFront
theorem dX7_failInThought_0 : decode cX7_failInThought 0 = .ok (.aload_n 0, 1) := by decide +kernel
theorem dX7_failInThought_1 : decode cX7_failInThought 1 = .ok (.getfield 16, 3) := by decide +kernel
theorem dX7_failInThought_4 : decode cX7_failInThought 4 = .ok (.aload_n 0, 1) := by decide +kernel
theorem dX7_failInThought_5 : decode cX7_failInThought 5 = .ok (.getfield 10, 3) := by decide +kernel
theorem dX7_failInThought_8 : decode cX7_failInThought 8 = .ok (.invokevirtual 161, 3) := by decide +kernel
theorem dX7_failInThought_11 : decode cX7_failInThought 11 = .ok (.aload_n 0, 1) := by decide +kernel
theorem dX7_failInThought_12 : decode cX7_failInThought 12 = .ok (.getfield 16, 3) := by decide +kernel
theorem dX7_failInThought_15 : decode cX7_failInThought 15 = .ok (.getfield 72, 3) := by decide +kernel
theorem dX7_failInThought_18 : decode cX7_failInThought 18 = .ok (.iload_n 1, 1) := by decide +kernel
theorem dX7_failInThought_19 : decode cX7_failInThought 19 = .ok (.aaload, 1) := by decide +kernel
theorem dX7_failInThought_20 : decode cX7_failInThought 20 = .ok (.getfield 76, 3) := by decide +kernel
theorem dX7_failInThought_23 : decode cX7_failInThought 23 = .ok (.iconst 0, 1) := by decide +kernel
theorem dX7_failInThought_24 : decode cX7_failInThought 24 = .ok (.iload_n 2, 1) := by decide +kernel
theorem dX7_failInThought_25 : decode cX7_failInThought 25 = .ok (.invokevirtual 342, 3) := by decide +kernel
theorem dX7_failInThought_28 : decode cX7_failInThought 28 = .ok (.aload_n 0, 1) := by decide +kernel
theorem dX7_failInThought_29 : decode cX7_failInThought 29 = .ok (.getfield 16, 3) := by decide +kernel
theorem dX7_failInThought_32 : decode cX7_failInThought 32 = .ok (.iload_n 1, 1) := by decide +kernel
theorem dX7_failInThought_33 : decode cX7_failInThought 33 = .ok (.invokevirtual 165, 3) := by decide +kernel
theorem dX7_failInThought_36 : decode cX7_failInThought 36 = .ok (.ireturn, 1) := by decide +kernel
set_option maxRecDepth 20000 in
theorem ggX7_failBackwards_X6_isBlank : GoodIn wsX7_failBackwards wsX6_isBlank := goodIn_ca (goodIn_r _ [9, 10, 11, 12, 8, 13, 14, 15, 82, 83] (by decide +kernel) (by decide +kernel)) (goodIn_sub (fun _ h => List.mem_cons_of_mem _ (List.mem_append_right _ h)) (by decide +kernel))
set_option maxRecDepth 20000 in
theorem gX7_failBackwards_X6_isBlank : GoodIn wsX7_failBackwards (wsV RX7 109 RX6 yX6_isBlank wsX6_isBlank) := goodIn_app (goodIn_of _ (by decide +kernel)) ggX7_failBackwards_X6_isBlank
set_option maxRecDepth 20000 in
theorem ggX7_failBackwards_X6_grey : GoodIn wsX7_failBackwards wsX6_grey := goodIn_ca (goodIn_r _ [19, 10, 11, 12, 8, 13, 14, 15, 82, 83] (by decide +kernel) (by decide +kernel)) (goodIn_sub (fun _ h => List.mem_cons_of_mem _ (List.mem_append_right _ h)) (by decide +kernel))
set_option maxRecDepth 20000 in
theorem gX7_failBackwards_X6_grey : GoodIn wsX7_failBackwards (wsV RX7 142 RX6 yX6_grey wsX6_grey) := goodIn_app (goodIn_of _ (by decide +kernel)) ggX7_failBackwards_X6_grey
set_option maxRecDepth 20000 in
theorem ggX7_failBackwards_X6_alarm : GoodIn wsX7_failBackwards wsX6_alarm := goodIn_ca (goodIn_r _ [23, 10, 11, 12, 8, 13, 14, 15, 82, 83] (by decide +kernel) (by decide +kernel)) (goodIn_sub (fun _ h => List.mem_cons_of_mem _ (List.mem_append_right _ h)) (by decide +kernel))
set_option maxRecDepth 20000 in
theorem gX7_failBackwards_X6_alarm : GoodIn wsX7_failBackwards (wsV RX7 145 RX6 yX6_alarm wsX6_alarm) := goodIn_app (goodIn_of _ (by decide +kernel)) ggX7_failBackwards_X6_alarm
set_option maxRecDepth 20000 in
theorem ggX7_failBackwards_X1_freshAt : GoodIn wsX7_failBackwards wsX1_freshAt := goodIn_ca (goodIn_r _ [28, 29, 30, 31, 32, 27, 33, 34, 84, 85] (by decide +kernel) (by decide +kernel)) (goodIn_sub (fun _ h => List.mem_cons_of_mem _ (List.mem_append_right _ h)) (by decide +kernel))
set_option maxRecDepth 20000 in
theorem gX7_failBackwards_X1_freshAt : GoodIn wsX7_failBackwards (wsV RX7 168 RX1 yX1_freshAt wsX1_freshAt) := goodIn_app (goodIn_of _ (by decide +kernel)) ggX7_failBackwards_X1_freshAt
set_option maxRecDepth 20000 in
theorem ggX7_failBackwards_X1_yawned : GoodIn wsX7_failBackwards wsX1_yawned := goodIn_ca (goodIn_r _ [38, 34, 39, 40, 41, 27, 42, 29, 84, 85] (by decide +kernel) (by decide +kernel)) (goodIn_sub (fun _ h => List.mem_cons_of_mem _ (List.mem_append_right _ h)) (by decide +kernel))
set_option maxRecDepth 20000 in
theorem gX7_failBackwards_X1_yawned : GoodIn wsX7_failBackwards (wsV RX7 133 RX1 yX1_yawned wsX1_yawned) := goodIn_app (goodIn_of _ (by decide +kernel)) ggX7_failBackwards_X1_yawned
set_option maxRecDepth 20000 in
theorem ggX7_failBackwards_X0_isPassedBy : GoodIn wsX7_failBackwards wsX0_isPassedBy := goodIn_r _ [47, 48, 49, 50, 76, 77, 78, 79, 80, 81] (by decide +kernel) (by decide +kernel)
set_option maxRecDepth 20000 in
theorem gX7_failBackwards_X0_isPassedBy : GoodIn wsX7_failBackwards (wsV RX7 148 RX0 yX0_isPassedBy wsX0_isPassedBy) := goodIn_app (goodIn_of _ (by decide +kernel)) ggX7_failBackwards_X0_isPassedBy
set_option maxRecDepth 20000 in
theorem ggX7_failBackwards_X1_isLeftOut : GoodIn wsX7_failBackwards wsX1_isLeftOut := goodIn_r _ [53] (by decide +kernel) (by decide +kernel)
set_option maxRecDepth 20000 in
theorem gX7_failBackwards_X1_isLeftOut : GoodIn wsX7_failBackwards (va_wsS RX7 345 yX1_isLeftOut wsX1_isLeftOut) := goodIn_app (goodIn_of _ (by decide +kernel)) ggX7_failBackwards_X1_isLeftOut
theorem dX7_failBackwards_0 : decode cX7_failBackwards 0 = .ok (.aload_n 0, 1) := by decide +kernel
theorem dX7_failBackwards_1 : decode cX7_failBackwards 1 = .ok (.getfield 10, 3) := by decide +kernel
theorem dX7_failBackwards_4 : decode cX7_failBackwards 4 = .ok (.getfield 72, 3) := by decide +kernel
theorem dX7_failBackwards_7 : decode cX7_failBackwards 7 = .ok (.iload_n 1, 1) := by decide +kernel
theorem dX7_failBackwards_8 : decode cX7_failBackwards 8 = .ok (.aaload, 1) := by decide +kernel
theorem dX7_failBackwards_9 : decode cX7_failBackwards 9 = .ok (.astore_n 3, 1) := by decide +kernel
theorem dX7_failBackwards_10 : decode cX7_failBackwards 10 = .ok (.aload_n 3, 1) := by decide +kernel
theorem dX7_failBackwards_11 : decode cX7_failBackwards 11 = .ok (.getfield 76, 3) := by decide +kernel
theorem dX7_failBackwards_14 : decode cX7_failBackwards 14 = .ok (.iload_n 2, 1) := by decide +kernel
theorem dX7_failBackwards_15 : decode cX7_failBackwards 15 = .ok (.invokevirtual 109, 3) := by decide +kernel
theorem dX7_failBackwards_18 : decode cX7_failBackwards 18 = .ok (.ifCond .eq 5, 3) := by decide +kernel
theorem dX7_failBackwards_21 : decode cX7_failBackwards 21 = .ok (.iconst 0, 1) := by decide +kernel
theorem dX7_failBackwards_22 : decode cX7_failBackwards 22 = .ok (.ireturn, 1) := by decide +kernel
theorem dX7_failBackwards_23 : decode cX7_failBackwards 23 = .ok (.aload_n 3, 1) := by decide +kernel
theorem dX7_failBackwards_24 : decode cX7_failBackwards 24 = .ok (.getfield 76, 3) := by decide +kernel
theorem dX7_failBackwards_27 : decode cX7_failBackwards 27 = .ok (.iload_n 2, 1) := by decide +kernel
theorem dX7_failBackwards_28 : decode cX7_failBackwards 28 = .ok (.invokevirtual 142, 3) := by decide +kernel
theorem dX7_failBackwards_31 : decode cX7_failBackwards 31 = .ok (.istore 4, 2) := by decide +kernel
theorem dX7_failBackwards_33 : decode cX7_failBackwards 33 = .ok (.aload_n 3, 1) := by decide +kernel
theorem dX7_failBackwards_34 : decode cX7_failBackwards 34 = .ok (.getfield 76, 3) := by decide +kernel
theorem dX7_failBackwards_37 : decode cX7_failBackwards 37 = .ok (.iload_n 2, 1) := by decide +kernel
theorem dX7_failBackwards_38 : decode cX7_failBackwards 38 = .ok (.invokevirtual 145, 3) := by decide +kernel
theorem dX7_failBackwards_41 : decode cX7_failBackwards 41 = .ok (.istore 5, 2) := by decide +kernel
theorem dX7_failBackwards_43 : decode cX7_failBackwards 43 = .ok (.aload_n 0, 1) := by decide +kernel
theorem dX7_failBackwards_44 : decode cX7_failBackwards 44 = .ok (.getfield 10, 3) := by decide +kernel
theorem dX7_failBackwards_47 : decode cX7_failBackwards 47 = .ok (.getfield 117, 3) := by decide +kernel
theorem dX7_failBackwards_50 : decode cX7_failBackwards 50 = .ok (.aload_n 0, 1) := by decide +kernel
theorem dX7_failBackwards_51 : decode cX7_failBackwards 51 = .ok (.getfield 10, 3) := by decide +kernel
theorem dX7_failBackwards_54 : decode cX7_failBackwards 54 = .ok (.getfield 117, 3) := by decide +kernel
theorem dX7_failBackwards_57 : decode cX7_failBackwards 57 = .ok (.iconst 0, 1) := by decide +kernel
theorem dX7_failBackwards_58 : decode cX7_failBackwards 58 = .ok (.invokevirtual 168, 3) := by decide +kernel
theorem dX7_failBackwards_61 : decode cX7_failBackwards 61 = .ok (.invokevirtual 133, 3) := by decide +kernel
theorem dX7_failBackwards_64 : decode cX7_failBackwards 64 = .ok (.istore 6, 2) := by decide +kernel
theorem dX7_failBackwards_66 : decode cX7_failBackwards 66 = .ok (.iconst 0, 1) := by decide +kernel
theorem dX7_failBackwards_67 : decode cX7_failBackwards 67 = .ok (.istore 7, 2) := by decide +kernel
theorem dX7_failBackwards_69 : decode cX7_failBackwards 69 = .ok (.iconst 3, 1) := by decide +kernel
theorem dX7_failBackwards_70 : decode cX7_failBackwards 70 = .ok (.istore 8, 2) := by decide +kernel
theorem dX7_failBackwards_72 : decode cX7_failBackwards 72 = .ok (.iload 8, 2) := by decide +kernel
theorem dX7_failBackwards_74 : decode cX7_failBackwards 74 = .ok (.iconst 1, 1) := by decide +kernel
theorem dX7_failBackwards_75 : decode cX7_failBackwards 75 = .ok (.if_icmp .lt 36, 3) := by decide +kernel
theorem dX7_failBackwards_78 : decode cX7_failBackwards 78 = .ok (.aload_n 3, 1) := by decide +kernel
theorem dX7_failBackwards_79 : decode cX7_failBackwards 79 = .ok (.iload 4, 2) := by decide +kernel
theorem dX7_failBackwards_81 : decode cX7_failBackwards 81 = .ok (.iload 5, 2) := by decide +kernel
theorem dX7_failBackwards_83 : decode cX7_failBackwards 83 = .ok (.iload 8, 2) := by decide +kernel
theorem dX7_failBackwards_85 : decode cX7_failBackwards 85 = .ok (.invokevirtual 148, 3) := by decide +kernel
theorem dX7_failBackwards_88 : decode cX7_failBackwards 88 = .ok (.ifCond .ne 17, 3) := by decide +kernel
theorem dX7_failBackwards_91 : decode cX7_failBackwards 91 = .ok (.iload 8, 2) := by decide +kernel
theorem dX7_failBackwards_93 : decode cX7_failBackwards 93 = .ok (.iload 6, 2) := by decide +kernel
theorem dX7_failBackwards_95 : decode cX7_failBackwards 95 = .ok (.invokestatic 345, 3) := by decide +kernel
theorem dX7_failBackwards_98 : decode cX7_failBackwards 98 = .ok (.ifCond .ne 7, 3) := by decide +kernel
theorem dX7_failBackwards_101 : decode cX7_failBackwards 101 = .ok (.iload 8, 2) := by decide +kernel
theorem dX7_failBackwards_103 : decode cX7_failBackwards 103 = .ok (.istore 7, 2) := by decide +kernel
theorem dX7_failBackwards_105 : decode cX7_failBackwards 105 = .ok (.iinc 8 (-1), 3) := by decide +kernel
theorem dX7_failBackwards_108 : decode cX7_failBackwards 108 = .ok (.goto (-36), 3) := by decide +kernel
theorem dX7_failBackwards_111 : decode cX7_failBackwards 111 = .ok (.iload 7, 2) := by decide +kernel
theorem dX7_failBackwards_113 : decode cX7_failBackwards 113 = .ok (.ireturn, 1) := by decide +kernel
set_option maxRecDepth 20000 in
theorem ggX7_areFailsAlike_X7_failInThought : GoodIn wsX7_areFailsAlike wsX7_failInThought := goodIn_ca (goodIn_r _ [11, 12, 1, 4, 5, 13, 14, 15, 16, 17, 18, 19, 20, 21, 22, 23, 24, 25, 26, 27, 28, 29, 30, 31, 32, 33, 34, 35, 36, 37, 38, 39, 40, 41, 42, 43, 44, 45, 46, 47, 48, 49, 50, 51, 52, 53, 54, 55, 56, 57, 58, 59, 60, 61, 62, 63, 64, 65, 66, 67, 68, 69, 70, 71, 72, 73, 74, 75, 76, 77, 78, 79, 80, 81, 82, 83, 84, 85, 86, 87, 88, 89, 90, 91, 92, 93, 94, 95, 96, 97, 98, 99, 100, 101, 102, 103, 104, 105, 106, 107, 108, 109, 110, 111, 112, 113, 114, 115, 116, 117, 118, 119, 120, 121, 122, 123, 124, 125, 126, 127, 128, 129, 130, 131, 132, 133, 134, 135, 136, 137, 138, 139, 151, 152, 153, 154, 155, 156, 157, 158, 159, 160, 161, 162, 163, 164, 165, 166, 167, 168, 169, 170, 171, 172, 175, 176, 177, 178, 179, 180, 181, 182, 173, 174] (by decide +kernel) (by decide +kernel)) (goodIn_sub (fun _ h => List.mem_cons_of_mem _ (List.mem_append_right _ h)) (by decide +kernel))
set_option maxRecDepth 20000 in
theorem gX7_areFailsAlike_X7_failInThought : GoodIn wsX7_areFailsAlike (wsV RX7 158 RX7 yX7_failInThought wsX7_failInThought) := goodIn_app (goodIn_of _ (by decide +kernel)) ggX7_areFailsAlike_X7_failInThought
set_option maxRecDepth 20000 in
theorem ggX7_areFailsAlike_X7_failBackwards : GoodIn wsX7_areFailsAlike wsX7_failBackwards := goodIn_ca (goodIn_r _ [143, 1, 4, 5, 2, 144, 78, 79, 43, 80, 81, 82, 83, 84, 45, 46, 145, 108, 109, 110, 146, 112, 113, 114, 147, 70, 71, 55, 72, 57, 73, 74, 75, 76, 58, 148, 116, 117, 118, 96, 97, 98, 99, 149, 123, 124, 32, 125, 35, 36, 37, 150, 127, 128, 151, 152, 153, 154, 155, 156, 157, 158, 159, 160, 161, 162, 163, 164, 165, 166, 167, 168, 169, 170, 171, 172, 175, 176, 177, 178, 179, 180, 181, 182, 173, 174] (by decide +kernel) (by decide +kernel)) (goodIn_sub (fun _ h => List.mem_cons_of_mem _ (List.mem_append_right _ h)) (by decide +kernel))
set_option maxRecDepth 20000 in
theorem gX7_areFailsAlike_X7_failBackwards : GoodIn wsX7_areFailsAlike (wsV RX7 155 RX7 yX7_failBackwards wsX7_failBackwards) := goodIn_app (goodIn_of _ (by decide +kernel)) ggX7_areFailsAlike_X7_failBackwards
theorem dX7_areFailsAlike_0 : decode cX7_areFailsAlike 0 = .ok (.aload_n 0, 1) := by decide +kernel
theorem dX7_areFailsAlike_1 : decode cX7_areFailsAlike 1 = .ok (.getfield 10, 3) := by decide +kernel
theorem dX7_areFailsAlike_4 : decode cX7_areFailsAlike 4 = .ok (.getfield 117, 3) := by decide +kernel
theorem dX7_areFailsAlike_7 : decode cX7_areFailsAlike 7 = .ok (.getfield 349, 3) := by decide +kernel
theorem dX7_areFailsAlike_10 : decode cX7_areFailsAlike 10 = .ok (.ifCond .ne 5, 3) := by decide +kernel
theorem dX7_areFailsAlike_13 : decode cX7_areFailsAlike 13 = .ok (.iconst 1, 1) := by decide +kernel
theorem dX7_areFailsAlike_14 : decode cX7_areFailsAlike 14 = .ok (.ireturn, 1) := by decide +kernel
theorem dX7_areFailsAlike_15 : decode cX7_areFailsAlike 15 = .ok (.iconst 0, 1) := by decide +kernel
theorem dX7_areFailsAlike_16 : decode cX7_areFailsAlike 16 = .ok (.istore_n 1, 1) := by decide +kernel
theorem dX7_areFailsAlike_17 : decode cX7_areFailsAlike 17 = .ok (.iload_n 1, 1) := by decide +kernel
theorem dX7_areFailsAlike_18 : decode cX7_areFailsAlike 18 = .ok (.iconst 3, 1) := by decide +kernel
theorem dX7_areFailsAlike_19 : decode cX7_areFailsAlike 19 = .ok (.if_icmp .ge 53, 3) := by decide +kernel
theorem dX7_areFailsAlike_22 : decode cX7_areFailsAlike 22 = .ok (.iconst 0, 1) := by decide +kernel
theorem dX7_areFailsAlike_23 : decode cX7_areFailsAlike 23 = .ok (.istore_n 2, 1) := by decide +kernel
theorem dX7_areFailsAlike_24 : decode cX7_areFailsAlike 24 = .ok (.iload_n 2, 1) := by decide +kernel
theorem dX7_areFailsAlike_25 : decode cX7_areFailsAlike 25 = .ok (.aload_n 0, 1) := by decide +kernel
theorem dX7_areFailsAlike_26 : decode cX7_areFailsAlike 26 = .ok (.getfield 10, 3) := by decide +kernel
theorem dX7_areFailsAlike_29 : decode cX7_areFailsAlike 29 = .ok (.getfield 72, 3) := by decide +kernel
theorem dX7_areFailsAlike_32 : decode cX7_areFailsAlike 32 = .ok (.iload_n 1, 1) := by decide +kernel
theorem dX7_areFailsAlike_33 : decode cX7_areFailsAlike 33 = .ok (.aaload, 1) := by decide +kernel
theorem dX7_areFailsAlike_34 : decode cX7_areFailsAlike 34 = .ok (.getfield 76, 3) := by decide +kernel
theorem dX7_areFailsAlike_37 : decode cX7_areFailsAlike 37 = .ok (.getfield 82, 3) := by decide +kernel
theorem dX7_areFailsAlike_40 : decode cX7_areFailsAlike 40 = .ok (.if_icmp .ge 26, 3) := by decide +kernel
theorem dX7_areFailsAlike_43 : decode cX7_areFailsAlike 43 = .ok (.aload_n 0, 1) := by decide +kernel
theorem dX7_areFailsAlike_44 : decode cX7_areFailsAlike 44 = .ok (.iload_n 1, 1) := by decide +kernel
theorem dX7_areFailsAlike_45 : decode cX7_areFailsAlike 45 = .ok (.iload_n 2, 1) := by decide +kernel
theorem dX7_areFailsAlike_46 : decode cX7_areFailsAlike 46 = .ok (.invokevirtual 158, 3) := by decide +kernel
theorem dX7_areFailsAlike_49 : decode cX7_areFailsAlike 49 = .ok (.aload_n 0, 1) := by decide +kernel
theorem dX7_areFailsAlike_50 : decode cX7_areFailsAlike 50 = .ok (.iload_n 1, 1) := by decide +kernel
theorem dX7_areFailsAlike_51 : decode cX7_areFailsAlike 51 = .ok (.iload_n 2, 1) := by decide +kernel
theorem dX7_areFailsAlike_52 : decode cX7_areFailsAlike 52 = .ok (.invokevirtual 155, 3) := by decide +kernel
theorem dX7_areFailsAlike_55 : decode cX7_areFailsAlike 55 = .ok (.if_icmp .eq 5, 3) := by decide +kernel
theorem dX7_areFailsAlike_58 : decode cX7_areFailsAlike 58 = .ok (.iconst 0, 1) := by decide +kernel
theorem dX7_areFailsAlike_59 : decode cX7_areFailsAlike 59 = .ok (.ireturn, 1) := by decide +kernel
theorem dX7_areFailsAlike_60 : decode cX7_areFailsAlike 60 = .ok (.iinc 2 1, 3) := by decide +kernel
theorem dX7_areFailsAlike_63 : decode cX7_areFailsAlike 63 = .ok (.goto (-39), 3) := by decide +kernel
theorem dX7_areFailsAlike_66 : decode cX7_areFailsAlike 66 = .ok (.iinc 1 1, 3) := by decide +kernel
theorem dX7_areFailsAlike_69 : decode cX7_areFailsAlike 69 = .ok (.goto (-52), 3) := by decide +kernel
theorem dX7_areFailsAlike_72 : decode cX7_areFailsAlike 72 = .ok (.iconst 1, 1) := by decide +kernel
theorem dX7_areFailsAlike_73 : decode cX7_areFailsAlike 73 = .ok (.ireturn, 1) := by decide +kernel
set_option maxRecDepth 20000 in
theorem ggX7_pricesInThought_X5_copyFrom : GoodIn wsX7_pricesInThought wsX5_copyFrom := goodIn_r _ [9, 10, 11, 12, 13, 14, 15, 16, 17, 18, 19, 20, 21, 22, 23, 24, 25, 26, 27, 28, 29, 30, 31, 32, 33, 34, 35, 36, 37, 38, 39, 40, 41, 42, 43, 44, 45, 46, 47, 48, 49, 50, 51, 92, 93, 94, 95, 96, 97, 98, 99, 100, 101, 102, 105, 106, 107, 108, 109, 110, 103, 104, 111, 112] (by decide +kernel) (by decide +kernel)
set_option maxRecDepth 20000 in
theorem gX7_pricesInThought_X5_copyFrom : GoodIn wsX7_pricesInThought (wsV RX7 161 RX5 yX5_copyFrom wsX5_copyFrom) := goodIn_app (goodIn_of _ (by decide +kernel)) ggX7_pricesInThought_X5_copyFrom
set_option maxRecDepth 20000 in
theorem ggX7_pricesInThought_X5_dearest : GoodIn wsX7_pricesInThought wsX5_dearest := goodIn_ca (goodIn_r _ [55, 11, 56, 57, 58, 59, 8, 60, 19, 61, 62, 63, 64, 65, 66, 67, 68, 69, 70, 71, 35, 72, 37, 38, 92, 93, 94, 95, 96, 97, 98, 99, 100, 101, 102, 103, 104] (by decide +kernel) (by decide +kernel)) (goodIn_sub (fun _ h => List.mem_cons_of_mem _ (List.mem_append_right _ h)) (by decide +kernel))
set_option maxRecDepth 20000 in
theorem gX7_pricesInThought_X5_dearest : GoodIn wsX7_pricesInThought (wsV RX7 193 RX5 yX5_dearest wsX5_dearest) := goodIn_app (goodIn_of _ (by decide +kernel)) ggX7_pricesInThought_X5_dearest
set_option maxRecDepth 20000 in
theorem ggX7_pricesInThought_X5_sellReject : GoodIn wsX7_pricesInThought wsX5_sellReject := goodIn_ca (goodIn_r _ [76, 11, 13, 18, 19, 57, 58, 59, 8, 60, 61, 62, 63, 64, 65, 66, 67, 68, 69, 70, 71, 35, 72, 37, 38, 77, 78, 79, 80, 39, 40, 41, 42, 92, 93, 94, 95, 96, 97, 98, 99, 100, 101, 102, 103, 104] (by decide +kernel) (by decide +kernel)) (goodIn_sub (fun _ h => List.mem_cons_of_mem _ (List.mem_append_right _ h)) (by decide +kernel))
set_option maxRecDepth 20000 in
theorem gX7_pricesInThought_X5_sellReject : GoodIn wsX7_pricesInThought (wsV RX7 350 RX5 yX5_sellReject wsX5_sellReject) := goodIn_app (goodIn_of _ (by decide +kernel)) ggX7_pricesInThought_X5_sellReject
theorem dX7_pricesInThought_0 : decode cX7_pricesInThought 0 = .ok (.aload_n 0, 1) := by decide +kernel
theorem dX7_pricesInThought_1 : decode cX7_pricesInThought 1 = .ok (.getfield 16, 3) := by decide +kernel
theorem dX7_pricesInThought_4 : decode cX7_pricesInThought 4 = .ok (.aload_n 0, 1) := by decide +kernel
theorem dX7_pricesInThought_5 : decode cX7_pricesInThought 5 = .ok (.getfield 10, 3) := by decide +kernel
theorem dX7_pricesInThought_8 : decode cX7_pricesInThought 8 = .ok (.invokevirtual 161, 3) := by decide +kernel
theorem dX7_pricesInThought_11 : decode cX7_pricesInThought 11 = .ok (.iconst 0, 1) := by decide +kernel
theorem dX7_pricesInThought_12 : decode cX7_pricesInThought 12 = .ok (.istore_n 2, 1) := by decide +kernel
theorem dX7_pricesInThought_13 : decode cX7_pricesInThought 13 = .ok (.iconst 0, 1) := by decide +kernel
theorem dX7_pricesInThought_14 : decode cX7_pricesInThought 14 = .ok (.istore_n 3, 1) := by decide +kernel
theorem dX7_pricesInThought_15 : decode cX7_pricesInThought 15 = .ok (.iload_n 3, 1) := by decide +kernel
theorem dX7_pricesInThought_16 : decode cX7_pricesInThought 16 = .ok (.aload_n 0, 1) := by decide +kernel
theorem dX7_pricesInThought_17 : decode cX7_pricesInThought 17 = .ok (.getfield 10, 3) := by decide +kernel
theorem dX7_pricesInThought_20 : decode cX7_pricesInThought 20 = .ok (.getfield 179, 3) := by decide +kernel
theorem dX7_pricesInThought_23 : decode cX7_pricesInThought 23 = .ok (.getfield 82, 3) := by decide +kernel
theorem dX7_pricesInThought_26 : decode cX7_pricesInThought 26 = .ok (.if_icmp .ge 34, 3) := by decide +kernel
theorem dX7_pricesInThought_29 : decode cX7_pricesInThought 29 = .ok (.iload_n 2, 1) := by decide +kernel
theorem dX7_pricesInThought_30 : decode cX7_pricesInThought 30 = .ok (.aload_n 0, 1) := by decide +kernel
theorem dX7_pricesInThought_31 : decode cX7_pricesInThought 31 = .ok (.getfield 16, 3) := by decide +kernel
theorem dX7_pricesInThought_34 : decode cX7_pricesInThought 34 = .ok (.iload_n 1, 1) := by decide +kernel
theorem dX7_pricesInThought_35 : decode cX7_pricesInThought 35 = .ok (.ifCond .eq 13, 3) := by decide +kernel
theorem dX7_pricesInThought_38 : decode cX7_pricesInThought 38 = .ok (.aload_n 0, 1) := by decide +kernel
theorem dX7_pricesInThought_39 : decode cX7_pricesInThought 39 = .ok (.getfield 16, 3) := by decide +kernel
theorem dX7_pricesInThought_42 : decode cX7_pricesInThought 42 = .ok (.invokevirtual 193, 3) := by decide +kernel
theorem dX7_pricesInThought_45 : decode cX7_pricesInThought 45 = .ok (.goto 4, 3) := by decide +kernel
theorem dX7_pricesInThought_48 : decode cX7_pricesInThought 48 = .ok (.iconst 0, 1) := by decide +kernel
theorem dX7_pricesInThought_49 : decode cX7_pricesInThought 49 = .ok (.invokevirtual 350, 3) := by decide +kernel
theorem dX7_pricesInThought_52 : decode cX7_pricesInThought 52 = .ok (.iadd, 1) := by decide +kernel
theorem dX7_pricesInThought_53 : decode cX7_pricesInThought 53 = .ok (.istore_n 2, 1) := by decide +kernel
theorem dX7_pricesInThought_54 : decode cX7_pricesInThought 54 = .ok (.iinc 3 1, 3) := by decide +kernel
theorem dX7_pricesInThought_57 : decode cX7_pricesInThought 57 = .ok (.goto (-42), 3) := by decide +kernel
theorem dX7_pricesInThought_60 : decode cX7_pricesInThought 60 = .ok (.iload_n 2, 1) := by decide +kernel
theorem dX7_pricesInThought_61 : decode cX7_pricesInThought 61 = .ok (.ireturn, 1) := by decide +kernel
set_option maxRecDepth 20000 in
theorem ggX7_pricesByPlaces_X5_priceInNewWeek : GoodIn wsX7_pricesByPlaces wsX5_priceInNewWeek := goodIn_ca (goodIn_r _ [13, 14, 15, 16, 17, 18, 19, 20, 21, 33, 34, 35, 36, 37, 38, 39, 40, 41, 42, 43, 44, 45] (by decide +kernel) (by decide +kernel)) (goodIn_sub (fun _ h => List.mem_cons_of_mem _ (List.mem_append_right _ h)) (by decide +kernel))
set_option maxRecDepth 20000 in
theorem gX7_pricesByPlaces_X5_priceInNewWeek : GoodIn wsX7_pricesByPlaces (wsV RX7 353 RX5 yX5_priceInNewWeek wsX5_priceInNewWeek) := goodIn_app (goodIn_of _ (by decide +kernel)) ggX7_pricesByPlaces_X5_priceInNewWeek
theorem dX7_pricesByPlaces_0 : decode cX7_pricesByPlaces 0 = .ok (.iconst 0, 1) := by decide +kernel
theorem dX7_pricesByPlaces_1 : decode cX7_pricesByPlaces 1 = .ok (.istore_n 1, 1) := by decide +kernel
theorem dX7_pricesByPlaces_2 : decode cX7_pricesByPlaces 2 = .ok (.iconst 0, 1) := by decide +kernel
theorem dX7_pricesByPlaces_3 : decode cX7_pricesByPlaces 3 = .ok (.istore_n 2, 1) := by decide +kernel
theorem dX7_pricesByPlaces_4 : decode cX7_pricesByPlaces 4 = .ok (.iload_n 2, 1) := by decide +kernel
theorem dX7_pricesByPlaces_5 : decode cX7_pricesByPlaces 5 = .ok (.aload_n 0, 1) := by decide +kernel
theorem dX7_pricesByPlaces_6 : decode cX7_pricesByPlaces 6 = .ok (.getfield 10, 3) := by decide +kernel
theorem dX7_pricesByPlaces_9 : decode cX7_pricesByPlaces 9 = .ok (.getfield 179, 3) := by decide +kernel
theorem dX7_pricesByPlaces_12 : decode cX7_pricesByPlaces 12 = .ok (.getfield 82, 3) := by decide +kernel
theorem dX7_pricesByPlaces_15 : decode cX7_pricesByPlaces 15 = .ok (.if_icmp .ge 34, 3) := by decide +kernel
theorem dX7_pricesByPlaces_18 : decode cX7_pricesByPlaces 18 = .ok (.iload_n 1, 1) := by decide +kernel
theorem dX7_pricesByPlaces_19 : decode cX7_pricesByPlaces 19 = .ok (.iconst 1, 1) := by decide +kernel
theorem dX7_pricesByPlaces_20 : decode cX7_pricesByPlaces 20 = .ok (.aload_n 0, 1) := by decide +kernel
theorem dX7_pricesByPlaces_21 : decode cX7_pricesByPlaces 21 = .ok (.getfield 10, 3) := by decide +kernel
theorem dX7_pricesByPlaces_24 : decode cX7_pricesByPlaces 24 = .ok (.iload_n 2, 1) := by decide +kernel
theorem dX7_pricesByPlaces_25 : decode cX7_pricesByPlaces 25 = .ok (.invokevirtual 353, 3) := by decide +kernel
theorem dX7_pricesByPlaces_28 : decode cX7_pricesByPlaces 28 = .ok (.aload_n 0, 1) := by decide +kernel
theorem dX7_pricesByPlaces_29 : decode cX7_pricesByPlaces 29 = .ok (.getfield 10, 3) := by decide +kernel
theorem dX7_pricesByPlaces_32 : decode cX7_pricesByPlaces 32 = .ok (.getfield 356, 3) := by decide +kernel
theorem dX7_pricesByPlaces_35 : decode cX7_pricesByPlaces 35 = .ok (.isub, 1) := by decide +kernel
theorem dX7_pricesByPlaces_36 : decode cX7_pricesByPlaces 36 = .ok (.iload_n 2, 1) := by decide +kernel
theorem dX7_pricesByPlaces_37 : decode cX7_pricesByPlaces 37 = .ok (.isub, 1) := by decide +kernel
theorem dX7_pricesByPlaces_38 : decode cX7_pricesByPlaces 38 = .ok (.invokestatic 359, 3) := by decide +kernel
theorem dX7_pricesByPlaces_41 : decode cX7_pricesByPlaces 41 = .ok (.iadd, 1) := by decide +kernel
theorem dX7_pricesByPlaces_42 : decode cX7_pricesByPlaces 42 = .ok (.istore_n 1, 1) := by decide +kernel
theorem dX7_pricesByPlaces_43 : decode cX7_pricesByPlaces 43 = .ok (.iinc 2 1, 3) := by decide +kernel
theorem dX7_pricesByPlaces_46 : decode cX7_pricesByPlaces 46 = .ok (.goto (-42), 3) := by decide +kernel
theorem dX7_pricesByPlaces_49 : decode cX7_pricesByPlaces 49 = .ok (.iload_n 1, 1) := by decide +kernel
theorem dX7_pricesByPlaces_50 : decode cX7_pricesByPlaces 50 = .ok (.ireturn, 1) := by decide +kernel
set_option maxRecDepth 20000 in
theorem ggX7_demandBelt_X7_isBelt : GoodIn wsX7_demandBelt wsX7_isBelt := goodIn_r _ [6] (by decide +kernel) (by decide +kernel)
set_option maxRecDepth 20000 in
theorem gX7_demandBelt_X7_isBelt : GoodIn wsX7_demandBelt (va_wsS RX7 211 yX7_isBelt wsX7_isBelt) := goodIn_app (goodIn_of _ (by decide +kernel)) ggX7_demandBelt_X7_isBelt
theorem dX7_demandBelt_0 : decode cX7_demandBelt 0 = .ok (.iload_n 1, 1) := by decide +kernel
theorem dX7_demandBelt_1 : decode cX7_demandBelt 1 = .ok (.invokestatic 211, 3) := by decide +kernel
theorem dX7_demandBelt_4 : decode cX7_demandBelt 4 = .ok (.ifCond .ne 14, 3) := by decide +kernel
theorem dX7_demandBelt_7 : decode cX7_demandBelt 7 = .ok (.new 126, 3) := by decide +kernel
theorem dX7_demandBelt_10 : decode cX7_demandBelt 10 = .ok (.dup, 1) := by decide +kernel
theorem dX7_demandBelt_11 : decode cX7_demandBelt 11 = .ok (.ldc_w 362, 3) := by decide +kernel
theorem dX7_demandBelt_14 : decode cX7_demandBelt 14 = .ok (.invokespecial 130, 3) := by decide +kernel
theorem dX7_demandBelt_17 : decode cX7_demandBelt 17 = .ok (.athrow, 1) := by decide +kernel
theorem dX7_demandBelt_18 : decode cX7_demandBelt 18 = .ok (.return_, 1) := by decide +kernel
set_option maxRecDepth 20000 in
theorem ggX7_demandPlace_X7_isBelt : GoodIn wsX7_demandPlace wsX7_isBelt := goodIn_r _ [9] (by decide +kernel) (by decide +kernel)
set_option maxRecDepth 20000 in
theorem gX7_demandPlace_X7_isBelt : GoodIn wsX7_demandPlace (va_wsS RX7 211 yX7_isBelt wsX7_isBelt) := goodIn_app (goodIn_of _ (by decide +kernel)) ggX7_demandPlace_X7_isBelt
set_option maxRecDepth 20000 in
theorem ggX7_demandPlace_X6_has : GoodIn wsX7_demandPlace wsX6_has := goodIn_r _ [14, 15, 44, 45] (by decide +kernel) (by decide +kernel)
set_option maxRecDepth 20000 in
theorem gX7_demandPlace_X6_has : GoodIn wsX7_demandPlace (wsV RX7 364 RX6 yX6_has wsX6_has) := goodIn_app (goodIn_of _ (by decide +kernel)) ggX7_demandPlace_X6_has
theorem dX7_demandPlace_0 : decode cX7_demandPlace 0 = .ok (.iload_n 1, 1) := by decide +kernel
theorem dX7_demandPlace_1 : decode cX7_demandPlace 1 = .ok (.invokestatic 211, 3) := by decide +kernel
theorem dX7_demandPlace_4 : decode cX7_demandPlace 4 = .ok (.ifCond .eq 22, 3) := by decide +kernel
theorem dX7_demandPlace_7 : decode cX7_demandPlace 7 = .ok (.aload_n 0, 1) := by decide +kernel
theorem dX7_demandPlace_8 : decode cX7_demandPlace 8 = .ok (.getfield 10, 3) := by decide +kernel
theorem dX7_demandPlace_11 : decode cX7_demandPlace 11 = .ok (.getfield 72, 3) := by decide +kernel
theorem dX7_demandPlace_14 : decode cX7_demandPlace 14 = .ok (.iload_n 1, 1) := by decide +kernel
theorem dX7_demandPlace_15 : decode cX7_demandPlace 15 = .ok (.aaload, 1) := by decide +kernel
theorem dX7_demandPlace_16 : decode cX7_demandPlace 16 = .ok (.getfield 76, 3) := by decide +kernel
theorem dX7_demandPlace_19 : decode cX7_demandPlace 19 = .ok (.iload_n 2, 1) := by decide +kernel
theorem dX7_demandPlace_20 : decode cX7_demandPlace 20 = .ok (.invokevirtual 364, 3) := by decide +kernel
theorem dX7_demandPlace_23 : decode cX7_demandPlace 23 = .ok (.ifCond .ne 14, 3) := by decide +kernel
theorem dX7_demandPlace_26 : decode cX7_demandPlace 26 = .ok (.new 126, 3) := by decide +kernel
theorem dX7_demandPlace_29 : decode cX7_demandPlace 29 = .ok (.dup, 1) := by decide +kernel
theorem dX7_demandPlace_30 : decode cX7_demandPlace 30 = .ok (.ldc_w 365, 3) := by decide +kernel
theorem dX7_demandPlace_33 : decode cX7_demandPlace 33 = .ok (.invokespecial 130, 3) := by decide +kernel
theorem dX7_demandPlace_36 : decode cX7_demandPlace 36 = .ok (.athrow, 1) := by decide +kernel
theorem dX7_demandPlace_37 : decode cX7_demandPlace 37 = .ok (.return_, 1) := by decide +kernel
set_option maxRecDepth 20000 in
theorem ggX7_demandReject_X6_has : GoodIn wsX7_demandReject wsX6_has := goodIn_r _ [9, 10, 33, 34] (by decide +kernel) (by decide +kernel)
set_option maxRecDepth 20000 in
theorem gX7_demandReject_X6_has : GoodIn wsX7_demandReject (wsV RX7 364 RX6 yX6_has wsX6_has) := goodIn_app (goodIn_of _ (by decide +kernel)) ggX7_demandReject_X6_has
theorem dX7_demandReject_0 : decode cX7_demandReject 0 = .ok (.aload_n 0, 1) := by decide +kernel
theorem dX7_demandReject_1 : decode cX7_demandReject 1 = .ok (.getfield 10, 3) := by decide +kernel
theorem dX7_demandReject_4 : decode cX7_demandReject 4 = .ok (.getfield 179, 3) := by decide +kernel
theorem dX7_demandReject_7 : decode cX7_demandReject 7 = .ok (.iload_n 1, 1) := by decide +kernel
theorem dX7_demandReject_8 : decode cX7_demandReject 8 = .ok (.invokevirtual 364, 3) := by decide +kernel
theorem dX7_demandReject_11 : decode cX7_demandReject 11 = .ok (.ifCond .ne 14, 3) := by decide +kernel
theorem dX7_demandReject_14 : decode cX7_demandReject 14 = .ok (.new 126, 3) := by decide +kernel
theorem dX7_demandReject_17 : decode cX7_demandReject 17 = .ok (.dup, 1) := by decide +kernel
theorem dX7_demandReject_18 : decode cX7_demandReject 18 = .ok (.ldc_w 367, 3) := by decide +kernel
theorem dX7_demandReject_21 : decode cX7_demandReject 21 = .ok (.invokespecial 130, 3) := by decide +kernel
theorem dX7_demandReject_24 : decode cX7_demandReject 24 = .ok (.athrow, 1) := by decide +kernel
theorem dX7_demandReject_25 : decode cX7_demandReject 25 = .ok (.return_, 1) := by decide +kernel
theorem dX7_demandInspector_0 : decode cX7_demandInspector 0 = .ok (.aload_n 0, 1) := by decide +kernel
theorem dX7_demandInspector_1 : decode cX7_demandInspector 1 = .ok (.getfield 10, 3) := by decide +kernel
theorem dX7_demandInspector_4 : decode cX7_demandInspector 4 = .ok (.getfield 117, 3) := by decide +kernel
theorem dX7_demandInspector_7 : decode cX7_demandInspector 7 = .ok (.getfield 349, 3) := by decide +kernel
theorem dX7_demandInspector_10 : decode cX7_demandInspector 10 = .ok (.ifCond .ne 14, 3) := by decide +kernel
theorem dX7_demandInspector_13 : decode cX7_demandInspector 13 = .ok (.new 188, 3) := by decide +kernel
theorem dX7_demandInspector_16 : decode cX7_demandInspector 16 = .ok (.dup, 1) := by decide +kernel
theorem dX7_demandInspector_17 : decode cX7_demandInspector 17 = .ok (.ldc_w 369, 3) := by decide +kernel
theorem dX7_demandInspector_20 : decode cX7_demandInspector 20 = .ok (.invokespecial 192, 3) := by decide +kernel
theorem dX7_demandInspector_23 : decode cX7_demandInspector 23 = .ok (.athrow, 1) := by decide +kernel
theorem dX7_demandInspector_24 : decode cX7_demandInspector 24 = .ok (.return_, 1) := by decide +kernel
theorem dX7_demandWhat_0 : decode cX7_demandWhat 0 = .ok (.iload_n 0, 1) := by decide +kernel
theorem dX7_demandWhat_1 : decode cX7_demandWhat 1 = .ok (.ifCond .lt 8, 3) := by decide +kernel
theorem dX7_demandWhat_4 : decode cX7_demandWhat 4 = .ok (.iload_n 0, 1) := by decide +kernel
theorem dX7_demandWhat_5 : decode cX7_demandWhat 5 = .ok (.iload_n 1, 1) := by decide +kernel
theorem dX7_demandWhat_6 : decode cX7_demandWhat 6 = .ok (.if_icmp .le 14, 3) := by decide +kernel
theorem dX7_demandWhat_9 : decode cX7_demandWhat 9 = .ok (.new 137, 3) := by decide +kernel
theorem dX7_demandWhat_12 : decode cX7_demandWhat 12 = .ok (.dup, 1) := by decide +kernel
theorem dX7_demandWhat_13 : decode cX7_demandWhat 13 = .ok (.ldc_w 371, 3) := by decide +kernel
theorem dX7_demandWhat_16 : decode cX7_demandWhat 16 = .ok (.invokespecial 141, 3) := by decide +kernel
theorem dX7_demandWhat_19 : decode cX7_demandWhat 19 = .ok (.athrow, 1) := by decide +kernel
theorem dX7_demandWhat_20 : decode cX7_demandWhat 20 = .ok (.return_, 1) := by decide +kernel
theorem dX7_isBelt_0 : decode cX7_isBelt 0 = .ok (.iload_n 0, 1) := by decide +kernel
theorem dX7_isBelt_1 : decode cX7_isBelt 1 = .ok (.ifCond .lt 12, 3) := by decide +kernel
theorem dX7_isBelt_4 : decode cX7_isBelt 4 = .ok (.iload_n 0, 1) := by decide +kernel
theorem dX7_isBelt_5 : decode cX7_isBelt 5 = .ok (.iconst 3, 1) := by decide +kernel
theorem dX7_isBelt_6 : decode cX7_isBelt 6 = .ok (.if_icmp .ge 7, 3) := by decide +kernel
theorem dX7_isBelt_9 : decode cX7_isBelt 9 = .ok (.iconst 1, 1) := by decide +kernel
theorem dX7_isBelt_10 : decode cX7_isBelt 10 = .ok (.goto 4, 3) := by decide +kernel
theorem dX7_isBelt_13 : decode cX7_isBelt 13 = .ok (.iconst 0, 1) := by decide +kernel
theorem dX7_isBelt_14 : decode cX7_isBelt 14 = .ok (.ireturn, 1) := by decide +kernel
set_option maxRecDepth 20000 in
theorem ggX8_init_X8_lays : GoodIn wsX8_init wsX8_lays := goodIn_ca (goodIn_r _ [18, 5, 19, 20, 21, 22, 23, 24, 25, 26, 27, 28, 29, 30, 31, 32, 33, 34, 35, 36, 37] (by decide +kernel) (by decide +kernel)) (goodIn_sub (fun _ h => List.mem_cons_of_mem _ (List.mem_append_right _ h)) (by decide +kernel))
set_option maxRecDepth 20000 in
theorem gX8_init_X8_lays : GoodIn wsX8_init (wsV RX8 36 RX8 yX8_lays wsX8_lays) := goodIn_app (goodIn_of _ (by decide +kernel)) ggX8_init_X8_lays
theorem dX8_init_0 : decode cX8_init 0 = .ok (.aload_n 0, 1) := by decide +kernel
theorem dX8_init_1 : decode cX8_init 1 = .ok (.invokespecial 1, 3) := by decide +kernel
theorem dX8_init_4 : decode cX8_init 4 = .ok (.aload_n 0, 1) := by decide +kernel
theorem dX8_init_5 : decode cX8_init 5 = .ok (.bipush 125, 2) := by decide +kernel
theorem dX8_init_7 : decode cX8_init 7 = .ok (.newarray .int, 2) := by decide +kernel
theorem dX8_init_9 : decode cX8_init 9 = .ok (.putfield 7, 3) := by decide +kernel
theorem dX8_init_12 : decode cX8_init 12 = .ok (.aload_n 0, 1) := by decide +kernel
theorem dX8_init_13 : decode cX8_init 13 = .ok (.sipush 1000, 3) := by decide +kernel
theorem dX8_init_16 : decode cX8_init 16 = .ok (.newarray .int, 2) := by decide +kernel
theorem dX8_init_18 : decode cX8_init 18 = .ok (.putfield 13, 3) := by decide +kernel
theorem dX8_init_21 : decode cX8_init 21 = .ok (.aload_n 0, 1) := by decide +kernel
theorem dX8_init_22 : decode cX8_init 22 = .ok (.bipush 125, 2) := by decide +kernel
theorem dX8_init_24 : decode cX8_init 24 = .ok (.newarray .int, 2) := by decide +kernel
theorem dX8_init_26 : decode cX8_init 26 = .ok (.putfield 16, 3) := by decide +kernel
theorem dX8_init_29 : decode cX8_init 29 = .ok (.aload_n 0, 1) := by decide +kernel
theorem dX8_init_30 : decode cX8_init 30 = .ok (.bipush 125, 2) := by decide +kernel
theorem dX8_init_32 : decode cX8_init 32 = .ok (.newarray .int, 2) := by decide +kernel
theorem dX8_init_34 : decode cX8_init 34 = .ok (.putfield 19, 3) := by decide +kernel
theorem dX8_init_37 : decode cX8_init 37 = .ok (.aload_n 0, 1) := by decide +kernel
theorem dX8_init_38 : decode cX8_init 38 = .ok (.bipush 60, 2) := by decide +kernel
theorem dX8_init_40 : decode cX8_init 40 = .ok (.newarray .int, 2) := by decide +kernel
theorem dX8_init_42 : decode cX8_init 42 = .ok (.putfield 22, 3) := by decide +kernel
theorem dX8_init_45 : decode cX8_init 45 = .ok (.aload_n 0, 1) := by decide +kernel
theorem dX8_init_46 : decode cX8_init 46 = .ok (.iconst (-1), 1) := by decide +kernel
theorem dX8_init_47 : decode cX8_init 47 = .ok (.putfield 25, 3) := by decide +kernel
theorem dX8_init_50 : decode cX8_init 50 = .ok (.aload_n 0, 1) := by decide +kernel
theorem dX8_init_51 : decode cX8_init 51 = .ok (.bipush 60, 2) := by decide +kernel
theorem dX8_init_53 : decode cX8_init 53 = .ok (.newarray .char, 2) := by decide +kernel
theorem dX8_init_55 : decode cX8_init 55 = .ok (.putfield 29, 3) := by decide +kernel
theorem dX8_init_58 : decode cX8_init 58 = .ok (.aload_n 0, 1) := by decide +kernel
theorem dX8_init_59 : decode cX8_init 59 = .ok (.bipush 124, 2) := by decide +kernel
theorem dX8_init_61 : decode cX8_init 61 = .ok (.newarray .int, 2) := by decide +kernel
theorem dX8_init_63 : decode cX8_init 63 = .ok (.putfield 33, 3) := by decide +kernel
theorem dX8_init_66 : decode cX8_init 66 = .ok (.aload_n 0, 1) := by decide +kernel
theorem dX8_init_67 : decode cX8_init 67 = .ok (.getfield 7, 3) := by decide +kernel
theorem dX8_init_70 : decode cX8_init 70 = .ok (.iconst 0, 1) := by decide +kernel
theorem dX8_init_71 : decode cX8_init 71 = .ok (.iconst 5, 1) := by decide +kernel
theorem dX8_init_72 : decode cX8_init 72 = .ok (.iastore, 1) := by decide +kernel
theorem dX8_init_73 : decode cX8_init 73 = .ok (.iconst 0, 1) := by decide +kernel
theorem dX8_init_74 : decode cX8_init 74 = .ok (.istore_n 1, 1) := by decide +kernel
theorem dX8_init_75 : decode cX8_init 75 = .ok (.iload_n 1, 1) := by decide +kernel
theorem dX8_init_76 : decode cX8_init 76 = .ok (.iconst 3, 1) := by decide +kernel
theorem dX8_init_77 : decode cX8_init 77 = .ok (.if_icmp .ge 31, 3) := by decide +kernel
theorem dX8_init_80 : decode cX8_init 80 = .ok (.aload_n 0, 1) := by decide +kernel
theorem dX8_init_81 : decode cX8_init 81 = .ok (.iload_n 1, 1) := by decide +kernel
theorem dX8_init_82 : decode cX8_init 82 = .ok (.iconst 1, 1) := by decide +kernel
theorem dX8_init_83 : decode cX8_init 83 = .ok (.iconst 5, 1) := by decide +kernel
theorem dX8_init_84 : decode cX8_init 84 = .ok (.invokevirtual 36, 3) := by decide +kernel
theorem dX8_init_87 : decode cX8_init 87 = .ok (.aload_n 0, 1) := by decide +kernel
theorem dX8_init_88 : decode cX8_init 88 = .ok (.iload_n 1, 1) := by decide +kernel
theorem dX8_init_89 : decode cX8_init 89 = .ok (.iconst 2, 1) := by decide +kernel
theorem dX8_init_90 : decode cX8_init 90 = .ok (.bipush 7, 2) := by decide +kernel
theorem dX8_init_92 : decode cX8_init 92 = .ok (.invokevirtual 36, 3) := by decide +kernel
theorem dX8_init_95 : decode cX8_init 95 = .ok (.aload_n 0, 1) := by decide +kernel
theorem dX8_init_96 : decode cX8_init 96 = .ok (.iload_n 1, 1) := by decide +kernel
theorem dX8_init_97 : decode cX8_init 97 = .ok (.iconst 3, 1) := by decide +kernel
