set_option maxRecDepth 20000 in
theorem ggX0_init_X6_init : GoodIn wsX0_init wsX6_init := goodIn_r _ [14, 15, 2, 3, 16, 17, 18, 19, 20] (by decide +kernel) (by decide +kernel)
set_option maxRecDepth 20000 in
theorem gX0_init_X6_init_n11 : GoodIn wsX0_init (wsX6_init) := ggX0_init_X6_init
theorem dX0_init_0 : decode cX0_init 0 = .ok (.aload_n 0, 1) := by decide +kernel
theorem dX0_init_1 : decode cX0_init 1 = .ok (.invokespecial 3, 3) := by decide +kernel
theorem dX0_init_4 : decode cX0_init 4 = .ok (.aload_n 0, 1) := by decide +kernel
theorem dX0_init_5 : decode cX0_init 5 = .ok (.new 9, 3) := by decide +kernel
theorem dX0_init_8 : decode cX0_init 8 = .ok (.dup, 1) := by decide +kernel
theorem dX0_init_9 : decode cX0_init 9 = .ok (.invokespecial 11, 3) := by decide +kernel
theorem dX0_init_12 : decode cX0_init 12 = .ok (.putfield 12, 3) := by decide +kernel
theorem dX0_init_15 : decode cX0_init 15 = .ok (.aload_n 0, 1) := by decide +kernel
theorem dX0_init_16 : decode cX0_init 16 = .ok (.iconst 5, 1) := by decide +kernel
theorem dX0_init_17 : decode cX0_init 17 = .ok (.putfield 18, 3) := by decide +kernel
theorem dX0_init_20 : decode cX0_init 20 = .ok (.aload_n 0, 1) := by decide +kernel
theorem dX0_init_21 : decode cX0_init 21 = .ok (.bipush 7, 2) := by decide +kernel
theorem dX0_init_23 : decode cX0_init 23 = .ok (.putfield 22, 3) := by decide +kernel
theorem dX0_init_26 : decode cX0_init 26 = .ok (.aload_n 0, 1) := by decide +kernel
theorem dX0_init_27 : decode cX0_init 27 = .ok (.iconst (-1), 1) := by decide +kernel
theorem dX0_init_28 : decode cX0_init 28 = .ok (.putfield 25, 3) := by decide +kernel
theorem dX0_init_31 : decode cX0_init 31 = .ok (.aload_n 0, 1) := by decide +kernel
theorem dX0_init_32 : decode cX0_init 32 = .ok (.iconst 0, 1) := by decide +kernel
theorem dX0_init_33 : decode cX0_init 33 = .ok (.putfield 28, 3) := by decide +kernel
theorem dX0_init_36 : decode cX0_init 36 = .ok (.aload_n 0, 1) := by decide +kernel
theorem dX0_init_37 : decode cX0_init 37 = .ok (.iconst 0, 1) := by decide +kernel
theorem dX0_init_38 : decode cX0_init 38 = .ok (.putfield 31, 3) := by decide +kernel
theorem dX0_init_41 : decode cX0_init 41 = .ok (.return_, 1) := by decide +kernel
set_option maxRecDepth 20000 in
theorem ggX0_copyFrom_X6_copyFrom : GoodIn wsX0_copyFrom wsX6_copyFrom := goodIn_r _ [11, 12, 13, 14, 15, 16, 17, 24, 25] (by decide +kernel) (by decide +kernel)
set_option maxRecDepth 20000 in
theorem gX0_copyFrom_X6_copyFrom : GoodIn wsX0_copyFrom (wsV RX0 34 RX6 yX6_copyFrom wsX6_copyFrom) := goodIn_app (goodIn_of _ (by decide +kernel)) ggX0_copyFrom_X6_copyFrom
theorem dX0_copyFrom_0 : decode cX0_copyFrom 0 = .ok (.aload_n 0, 1) := by decide +kernel
theorem dX0_copyFrom_1 : decode cX0_copyFrom 1 = .ok (.getfield 12, 3) := by decide +kernel
theorem dX0_copyFrom_4 : decode cX0_copyFrom 4 = .ok (.aload_n 1, 1) := by decide +kernel
theorem dX0_copyFrom_5 : decode cX0_copyFrom 5 = .ok (.getfield 12, 3) := by decide +kernel
theorem dX0_copyFrom_8 : decode cX0_copyFrom 8 = .ok (.invokevirtual 34, 3) := by decide +kernel
theorem dX0_copyFrom_11 : decode cX0_copyFrom 11 = .ok (.aload_n 0, 1) := by decide +kernel
theorem dX0_copyFrom_12 : decode cX0_copyFrom 12 = .ok (.aload_n 1, 1) := by decide +kernel
theorem dX0_copyFrom_13 : decode cX0_copyFrom 13 = .ok (.getfield 18, 3) := by decide +kernel
theorem dX0_copyFrom_16 : decode cX0_copyFrom 16 = .ok (.putfield 18, 3) := by decide +kernel
theorem dX0_copyFrom_19 : decode cX0_copyFrom 19 = .ok (.aload_n 0, 1) := by decide +kernel
theorem dX0_copyFrom_20 : decode cX0_copyFrom 20 = .ok (.aload_n 1, 1) := by decide +kernel
theorem dX0_copyFrom_21 : decode cX0_copyFrom 21 = .ok (.getfield 22, 3) := by decide +kernel
theorem dX0_copyFrom_24 : decode cX0_copyFrom 24 = .ok (.putfield 22, 3) := by decide +kernel
theorem dX0_copyFrom_27 : decode cX0_copyFrom 27 = .ok (.aload_n 0, 1) := by decide +kernel
theorem dX0_copyFrom_28 : decode cX0_copyFrom 28 = .ok (.aload_n 1, 1) := by decide +kernel
theorem dX0_copyFrom_29 : decode cX0_copyFrom 29 = .ok (.getfield 25, 3) := by decide +kernel
theorem dX0_copyFrom_32 : decode cX0_copyFrom 32 = .ok (.putfield 25, 3) := by decide +kernel
theorem dX0_copyFrom_35 : decode cX0_copyFrom 35 = .ok (.aload_n 0, 1) := by decide +kernel
theorem dX0_copyFrom_36 : decode cX0_copyFrom 36 = .ok (.aload_n 1, 1) := by decide +kernel
theorem dX0_copyFrom_37 : decode cX0_copyFrom 37 = .ok (.getfield 28, 3) := by decide +kernel
theorem dX0_copyFrom_40 : decode cX0_copyFrom 40 = .ok (.putfield 28, 3) := by decide +kernel
theorem dX0_copyFrom_43 : decode cX0_copyFrom 43 = .ok (.aload_n 0, 1) := by decide +kernel
theorem dX0_copyFrom_44 : decode cX0_copyFrom 44 = .ok (.aload_n 1, 1) := by decide +kernel
theorem dX0_copyFrom_45 : decode cX0_copyFrom 45 = .ok (.getfield 31, 3) := by decide +kernel
theorem dX0_copyFrom_48 : decode cX0_copyFrom 48 = .ok (.putfield 31, 3) := by decide +kernel
theorem dX0_copyFrom_51 : decode cX0_copyFrom 51 = .ok (.return_, 1) := by decide +kernel
theorem dX0_isPassedBy_0 : decode cX0_isPassedBy 0 = .ok (.iload_n 3, 1) := by decide +kernel
theorem dX0_isPassedBy_1 : decode cX0_isPassedBy 1 = .ok (.lookupswitch 55 #[(1, 27), (2, 41)], 27) := by decide +kernel
theorem dX0_isPassedBy_28 : decode cX0_isPassedBy 28 = .ok (.iload_n 1, 1) := by decide +kernel
theorem dX0_isPassedBy_29 : decode cX0_isPassedBy 29 = .ok (.aload_n 0, 1) := by decide +kernel
theorem dX0_isPassedBy_30 : decode cX0_isPassedBy 30 = .ok (.getfield 18, 3) := by decide +kernel
theorem dX0_isPassedBy_33 : decode cX0_isPassedBy 33 = .ok (.if_icmp .lt 7, 3) := by decide +kernel
theorem dX0_isPassedBy_36 : decode cX0_isPassedBy 36 = .ok (.iconst 1, 1) := by decide +kernel
theorem dX0_isPassedBy_37 : decode cX0_isPassedBy 37 = .ok (.goto 4, 3) := by decide +kernel
theorem dX0_isPassedBy_40 : decode cX0_isPassedBy 40 = .ok (.iconst 0, 1) := by decide +kernel
theorem dX0_isPassedBy_41 : decode cX0_isPassedBy 41 = .ok (.ireturn, 1) := by decide +kernel
theorem dX0_isPassedBy_42 : decode cX0_isPassedBy 42 = .ok (.iload_n 2, 1) := by decide +kernel
theorem dX0_isPassedBy_43 : decode cX0_isPassedBy 43 = .ok (.aload_n 0, 1) := by decide +kernel
theorem dX0_isPassedBy_44 : decode cX0_isPassedBy 44 = .ok (.getfield 22, 3) := by decide +kernel
theorem dX0_isPassedBy_47 : decode cX0_isPassedBy 47 = .ok (.if_icmp .gt 7, 3) := by decide +kernel
theorem dX0_isPassedBy_50 : decode cX0_isPassedBy 50 = .ok (.iconst 1, 1) := by decide +kernel
theorem dX0_isPassedBy_51 : decode cX0_isPassedBy 51 = .ok (.goto 4, 3) := by decide +kernel
theorem dX0_isPassedBy_54 : decode cX0_isPassedBy 54 = .ok (.iconst 0, 1) := by decide +kernel
theorem dX0_isPassedBy_55 : decode cX0_isPassedBy 55 = .ok (.ireturn, 1) := by decide +kernel
theorem dX0_isPassedBy_56 : decode cX0_isPassedBy 56 = .ok (.iload_n 1, 1) := by decide +kernel
theorem dX0_isPassedBy_57 : decode cX0_isPassedBy 57 = .ok (.aload_n 0, 1) := by decide +kernel
theorem dX0_isPassedBy_58 : decode cX0_isPassedBy 58 = .ok (.getfield 25, 3) := by decide +kernel
theorem dX0_isPassedBy_61 : decode cX0_isPassedBy 61 = .ok (.if_icmp .eq 7, 3) := by decide +kernel
theorem dX0_isPassedBy_64 : decode cX0_isPassedBy 64 = .ok (.iconst 1, 1) := by decide +kernel
theorem dX0_isPassedBy_65 : decode cX0_isPassedBy 65 = .ok (.goto 4, 3) := by decide +kernel
theorem dX0_isPassedBy_68 : decode cX0_isPassedBy 68 = .ok (.iconst 0, 1) := by decide +kernel
theorem dX0_isPassedBy_69 : decode cX0_isPassedBy 69 = .ok (.ireturn, 1) := by decide +kernel
set_option maxRecDepth 20000 in
theorem ggX0_blanks_X6_isBlank : GoodIn wsX0_blanks wsX6_isBlank := goodIn_ca (goodIn_r _ [7, 8, 9, 10, 6, 11, 12, 13, 20, 21] (by decide +kernel) (by decide +kernel)) (goodIn_sub (fun _ h => List.mem_cons_of_mem _ (List.mem_append_right _ h)) (by decide +kernel))
set_option maxRecDepth 20000 in
theorem gX0_blanks_X6_isBlank : GoodIn wsX0_blanks (wsV RX0 41 RX6 yX6_isBlank wsX6_isBlank) := goodIn_app (goodIn_of _ (by decide +kernel)) ggX0_blanks_X6_isBlank
theorem dX0_blanks_0 : decode cX0_blanks 0 = .ok (.iconst 0, 1) := by decide +kernel
theorem dX0_blanks_1 : decode cX0_blanks 1 = .ok (.istore_n 1, 1) := by decide +kernel
theorem dX0_blanks_2 : decode cX0_blanks 2 = .ok (.iconst 0, 1) := by decide +kernel
theorem dX0_blanks_3 : decode cX0_blanks 3 = .ok (.istore_n 2, 1) := by decide +kernel
theorem dX0_blanks_4 : decode cX0_blanks 4 = .ok (.iload_n 2, 1) := by decide +kernel
theorem dX0_blanks_5 : decode cX0_blanks 5 = .ok (.aload_n 0, 1) := by decide +kernel
theorem dX0_blanks_6 : decode cX0_blanks 6 = .ok (.getfield 12, 3) := by decide +kernel
theorem dX0_blanks_9 : decode cX0_blanks 9 = .ok (.getfield 38, 3) := by decide +kernel
theorem dX0_blanks_12 : decode cX0_blanks 12 = .ok (.if_icmp .ge 28, 3) := by decide +kernel
theorem dX0_blanks_15 : decode cX0_blanks 15 = .ok (.iload_n 1, 1) := by decide +kernel
theorem dX0_blanks_16 : decode cX0_blanks 16 = .ok (.aload_n 0, 1) := by decide +kernel
theorem dX0_blanks_17 : decode cX0_blanks 17 = .ok (.getfield 12, 3) := by decide +kernel
theorem dX0_blanks_20 : decode cX0_blanks 20 = .ok (.iload_n 2, 1) := by decide +kernel
theorem dX0_blanks_21 : decode cX0_blanks 21 = .ok (.invokevirtual 41, 3) := by decide +kernel
theorem dX0_blanks_24 : decode cX0_blanks 24 = .ok (.ifCond .eq 7, 3) := by decide +kernel
theorem dX0_blanks_27 : decode cX0_blanks 27 = .ok (.iconst 1, 1) := by decide +kernel
theorem dX0_blanks_28 : decode cX0_blanks 28 = .ok (.goto 4, 3) := by decide +kernel
theorem dX0_blanks_31 : decode cX0_blanks 31 = .ok (.iconst 0, 1) := by decide +kernel
theorem dX0_blanks_32 : decode cX0_blanks 32 = .ok (.iadd, 1) := by decide +kernel
theorem dX0_blanks_33 : decode cX0_blanks 33 = .ok (.istore_n 1, 1) := by decide +kernel
theorem dX0_blanks_34 : decode cX0_blanks 34 = .ok (.iinc 2 1, 3) := by decide +kernel
theorem dX0_blanks_37 : decode cX0_blanks 37 = .ok (.goto (-33), 3) := by decide +kernel
theorem dX0_blanks_40 : decode cX0_blanks 40 = .ok (.iload_n 1, 1) := by decide +kernel
theorem dX0_blanks_41 : decode cX0_blanks 41 = .ok (.ireturn, 1) := by decide +kernel
set_option maxRecDepth 20000 in
theorem ggX0_greys_X6_isBlank : GoodIn wsX0_greys wsX6_isBlank := goodIn_ca (goodIn_r _ [7, 8, 9, 10, 6, 11, 12, 13, 24, 25] (by decide +kernel) (by decide +kernel)) (goodIn_sub (fun _ h => List.mem_cons_of_mem _ (List.mem_append_right _ h)) (by decide +kernel))
set_option maxRecDepth 20000 in
theorem gX0_greys_X6_isBlank : GoodIn wsX0_greys (wsV RX0 41 RX6 yX6_isBlank wsX6_isBlank) := goodIn_app (goodIn_of _ (by decide +kernel)) ggX0_greys_X6_isBlank
set_option maxRecDepth 20000 in
theorem ggX0_greys_X6_grey : GoodIn wsX0_greys wsX6_grey := goodIn_ca (goodIn_r _ [17, 8, 9, 10, 6, 11, 12, 13, 24, 25] (by decide +kernel) (by decide +kernel)) (goodIn_sub (fun _ h => List.mem_cons_of_mem _ (List.mem_append_right _ h)) (by decide +kernel))
set_option maxRecDepth 20000 in
theorem gX0_greys_X6_grey : GoodIn wsX0_greys (wsV RX0 45 RX6 yX6_grey wsX6_grey) := goodIn_app (goodIn_of _ (by decide +kernel)) ggX0_greys_X6_grey
theorem dX0_greys_0 : decode cX0_greys 0 = .ok (.iconst 0, 1) := by decide +kernel
theorem dX0_greys_1 : decode cX0_greys 1 = .ok (.istore_n 1, 1) := by decide +kernel
theorem dX0_greys_2 : decode cX0_greys 2 = .ok (.iconst 0, 1) := by decide +kernel
theorem dX0_greys_3 : decode cX0_greys 3 = .ok (.istore_n 2, 1) := by decide +kernel
theorem dX0_greys_4 : decode cX0_greys 4 = .ok (.iload_n 2, 1) := by decide +kernel
theorem dX0_greys_5 : decode cX0_greys 5 = .ok (.aload_n 0, 1) := by decide +kernel
theorem dX0_greys_6 : decode cX0_greys 6 = .ok (.getfield 12, 3) := by decide +kernel
theorem dX0_greys_9 : decode cX0_greys 9 = .ok (.getfield 38, 3) := by decide +kernel
theorem dX0_greys_12 : decode cX0_greys 12 = .ok (.if_icmp .ge 35, 3) := by decide +kernel
theorem dX0_greys_15 : decode cX0_greys 15 = .ok (.iload_n 1, 1) := by decide +kernel
theorem dX0_greys_16 : decode cX0_greys 16 = .ok (.aload_n 0, 1) := by decide +kernel
theorem dX0_greys_17 : decode cX0_greys 17 = .ok (.getfield 12, 3) := by decide +kernel
theorem dX0_greys_20 : decode cX0_greys 20 = .ok (.iload_n 2, 1) := by decide +kernel
theorem dX0_greys_21 : decode cX0_greys 21 = .ok (.invokevirtual 41, 3) := by decide +kernel
theorem dX0_greys_24 : decode cX0_greys 24 = .ok (.ifCond .eq 7, 3) := by decide +kernel
theorem dX0_greys_27 : decode cX0_greys 27 = .ok (.iconst 0, 1) := by decide +kernel
theorem dX0_greys_28 : decode cX0_greys 28 = .ok (.goto 11, 3) := by decide +kernel
theorem dX0_greys_31 : decode cX0_greys 31 = .ok (.aload_n 0, 1) := by decide +kernel
theorem dX0_greys_32 : decode cX0_greys 32 = .ok (.getfield 12, 3) := by decide +kernel
theorem dX0_greys_35 : decode cX0_greys 35 = .ok (.iload_n 2, 1) := by decide +kernel
theorem dX0_greys_36 : decode cX0_greys 36 = .ok (.invokevirtual 45, 3) := by decide +kernel
theorem dX0_greys_39 : decode cX0_greys 39 = .ok (.iadd, 1) := by decide +kernel
theorem dX0_greys_40 : decode cX0_greys 40 = .ok (.istore_n 1, 1) := by decide +kernel
theorem dX0_greys_41 : decode cX0_greys 41 = .ok (.iinc 2 1, 3) := by decide +kernel
theorem dX0_greys_44 : decode cX0_greys 44 = .ok (.goto (-40), 3) := by decide +kernel
theorem dX0_greys_47 : decode cX0_greys 47 = .ok (.iload_n 1, 1) := by decide +kernel
theorem dX0_greys_48 : decode cX0_greys 48 = .ok (.ireturn, 1) := by decide +kernel
theorem dX1_init_0 : decode cX1_init 0 = .ok (.aload_n 0, 1) := by decide +kernel
theorem dX1_init_1 : decode cX1_init 1 = .ok (.invokespecial 3, 3) := by decide +kernel
theorem dX1_init_4 : decode cX1_init 4 = .ok (.aload_n 0, 1) := by decide +kernel
theorem dX1_init_5 : decode cX1_init 5 = .ok (.iconst 4, 1) := by decide +kernel
theorem dX1_init_6 : decode cX1_init 6 = .ok (.newarray .int, 2) := by decide +kernel
theorem dX1_init_8 : decode cX1_init 8 = .ok (.putfield 9, 3) := by decide +kernel
theorem dX1_init_11 : decode cX1_init 11 = .ok (.aload_n 0, 1) := by decide +kernel
theorem dX1_init_12 : decode cX1_init 12 = .ok (.iconst 0, 1) := by decide +kernel
theorem dX1_init_13 : decode cX1_init 13 = .ok (.putfield 15, 3) := by decide +kernel
theorem dX1_init_16 : decode cX1_init 16 = .ok (.return_, 1) := by decide +kernel
theorem dX1_copyFrom_0 : decode cX1_copyFrom 0 = .ok (.aload_n 0, 1) := by decide +kernel
theorem dX1_copyFrom_1 : decode cX1_copyFrom 1 = .ok (.aload_n 1, 1) := by decide +kernel
theorem dX1_copyFrom_2 : decode cX1_copyFrom 2 = .ok (.getfield 15, 3) := by decide +kernel
theorem dX1_copyFrom_5 : decode cX1_copyFrom 5 = .ok (.putfield 15, 3) := by decide +kernel
theorem dX1_copyFrom_8 : decode cX1_copyFrom 8 = .ok (.aload_n 1, 1) := by decide +kernel
theorem dX1_copyFrom_9 : decode cX1_copyFrom 9 = .ok (.getfield 9, 3) := by decide +kernel
theorem dX1_copyFrom_12 : decode cX1_copyFrom 12 = .ok (.iconst 0, 1) := by decide +kernel
theorem dX1_copyFrom_13 : decode cX1_copyFrom 13 = .ok (.aload_n 0, 1) := by decide +kernel
theorem dX1_copyFrom_14 : decode cX1_copyFrom 14 = .ok (.getfield 9, 3) := by decide +kernel
theorem dX1_copyFrom_17 : decode cX1_copyFrom 17 = .ok (.iconst 0, 1) := by decide +kernel
theorem dX1_copyFrom_18 : decode cX1_copyFrom 18 = .ok (.iconst 4, 1) := by decide +kernel
theorem dX1_copyFrom_19 : decode cX1_copyFrom 19 = .ok (.invokestatic 19, 3) := by decide +kernel
theorem dX1_copyFrom_22 : decode cX1_copyFrom 22 = .ok (.return_, 1) := by decide +kernel
theorem dX1_has_0 : decode cX1_has 0 = .ok (.iload_n 1, 1) := by decide +kernel
theorem dX1_has_1 : decode cX1_has 1 = .ok (.ifCond .lt 15, 3) := by decide +kernel
theorem dX1_has_4 : decode cX1_has 4 = .ok (.iload_n 1, 1) := by decide +kernel
theorem dX1_has_5 : decode cX1_has 5 = .ok (.aload_n 0, 1) := by decide +kernel
theorem dX1_has_6 : decode cX1_has 6 = .ok (.getfield 15, 3) := by decide +kernel
theorem dX1_has_9 : decode cX1_has 9 = .ok (.if_icmp .ge 7, 3) := by decide +kernel
theorem dX1_has_12 : decode cX1_has 12 = .ok (.iconst 1, 1) := by decide +kernel
theorem dX1_has_13 : decode cX1_has 13 = .ok (.goto 4, 3) := by decide +kernel
theorem dX1_has_16 : decode cX1_has 16 = .ok (.iconst 0, 1) := by decide +kernel
theorem dX1_has_17 : decode cX1_has 17 = .ok (.ireturn, 1) := by decide +kernel
set_option maxRecDepth 20000 in
theorem ggX1_yawned_X1_has : GoodIn wsX1_yawned wsX1_has := goodIn_r _ [6, 7, 8, 9] (by decide +kernel) (by decide +kernel)
set_option maxRecDepth 20000 in
theorem gX1_yawned_X1_has : GoodIn wsX1_yawned (wsV RX1 25 RX1 yX1_has wsX1_has) := goodIn_app (goodIn_of _ (by decide +kernel)) ggX1_yawned_X1_has
theorem dX1_yawned_0 : decode cX1_yawned 0 = .ok (.aload_n 0, 1) := by decide +kernel
theorem dX1_yawned_1 : decode cX1_yawned 1 = .ok (.iload_n 1, 1) := by decide +kernel
theorem dX1_yawned_2 : decode cX1_yawned 2 = .ok (.invokevirtual 25, 3) := by decide +kernel
theorem dX1_yawned_5 : decode cX1_yawned 5 = .ok (.ifCond .eq 12, 3) := by decide +kernel
theorem dX1_yawned_8 : decode cX1_yawned 8 = .ok (.aload_n 0, 1) := by decide +kernel
theorem dX1_yawned_9 : decode cX1_yawned 9 = .ok (.getfield 9, 3) := by decide +kernel
theorem dX1_yawned_12 : decode cX1_yawned 12 = .ok (.iload_n 1, 1) := by decide +kernel
theorem dX1_yawned_13 : decode cX1_yawned 13 = .ok (.iaload, 1) := by decide +kernel
theorem dX1_yawned_14 : decode cX1_yawned 14 = .ok (.goto 4, 3) := by decide +kernel
theorem dX1_yawned_17 : decode cX1_yawned 17 = .ok (.iconst (-1), 1) := by decide +kernel
theorem dX1_yawned_18 : decode cX1_yawned 18 = .ok (.ireturn, 1) := by decide +kernel
set_option maxRecDepth 20000 in
theorem ggX1_addYawns_X1_has : GoodIn wsX1_addYawns wsX1_has := goodIn_r _ [13, 14, 15, 16] (by decide +kernel) (by decide +kernel)
set_option maxRecDepth 20000 in
theorem gX1_addYawns_X1_has : GoodIn wsX1_addYawns (wsV RX1 25 RX1 yX1_has wsX1_has) := goodIn_app (goodIn_of _ (by decide +kernel)) ggX1_addYawns_X1_has
theorem dX1_addYawns_0 : decode cX1_addYawns 0 = .ok (.aload_n 0, 1) := by decide +kernel
theorem dX1_addYawns_1 : decode cX1_addYawns 1 = .ok (.iload_n 1, 1) := by decide +kernel
theorem dX1_addYawns_2 : decode cX1_addYawns 2 = .ok (.invokevirtual 25, 3) := by decide +kernel
theorem dX1_addYawns_5 : decode cX1_addYawns 5 = .ok (.ifCond .eq 26, 3) := by decide +kernel
theorem dX1_addYawns_8 : decode cX1_addYawns 8 = .ok (.aload_n 0, 1) := by decide +kernel
theorem dX1_addYawns_9 : decode cX1_addYawns 9 = .ok (.getfield 9, 3) := by decide +kernel
theorem dX1_addYawns_12 : decode cX1_addYawns 12 = .ok (.iload_n 1, 1) := by decide +kernel
theorem dX1_addYawns_13 : decode cX1_addYawns 13 = .ok (.iconst 0, 1) := by decide +kernel
theorem dX1_addYawns_14 : decode cX1_addYawns 14 = .ok (.bipush 9, 2) := by decide +kernel
theorem dX1_addYawns_16 : decode cX1_addYawns 16 = .ok (.aload_n 0, 1) := by decide +kernel
theorem dX1_addYawns_17 : decode cX1_addYawns 17 = .ok (.getfield 9, 3) := by decide +kernel
theorem dX1_addYawns_20 : decode cX1_addYawns 20 = .ok (.iload_n 1, 1) := by decide +kernel
theorem dX1_addYawns_21 : decode cX1_addYawns 21 = .ok (.iaload, 1) := by decide +kernel
theorem dX1_addYawns_22 : decode cX1_addYawns 22 = .ok (.iload_n 2, 1) := by decide +kernel
theorem dX1_addYawns_23 : decode cX1_addYawns 23 = .ok (.iadd, 1) := by decide +kernel
theorem dX1_addYawns_24 : decode cX1_addYawns 24 = .ok (.invokestatic 29, 3) := by decide +kernel
theorem dX1_addYawns_27 : decode cX1_addYawns 27 = .ok (.invokestatic 35, 3) := by decide +kernel
theorem dX1_addYawns_30 : decode cX1_addYawns 30 = .ok (.iastore, 1) := by decide +kernel
theorem dX1_addYawns_31 : decode cX1_addYawns 31 = .ok (.return_, 1) := by decide +kernel
set_option maxRecDepth 20000 in
theorem ggX1_addYawnsToAll_X1_addYawns : GoodIn wsX1_addYawnsToAll wsX1_addYawns := goodIn_ca (goodIn_r _ [6, 7, 8, 9, 10, 11, 12, 13, 14, 15, 16, 17, 5, 18, 1, 19, 20] (by decide +kernel) (by decide +kernel)) (goodIn_sub (fun _ h => List.mem_cons_of_mem _ (List.mem_append_right _ h)) (by decide +kernel))
set_option maxRecDepth 20000 in
theorem gX1_addYawnsToAll_X1_addYawns : GoodIn wsX1_addYawnsToAll (wsV RX1 38 RX1 yX1_addYawns wsX1_addYawns) := goodIn_app (goodIn_of _ (by decide +kernel)) ggX1_addYawnsToAll_X1_addYawns
theorem dX1_addYawnsToAll_0 : decode cX1_addYawnsToAll 0 = .ok (.iconst 0, 1) := by decide +kernel
theorem dX1_addYawnsToAll_1 : decode cX1_addYawnsToAll 1 = .ok (.istore_n 2, 1) := by decide +kernel
theorem dX1_addYawnsToAll_2 : decode cX1_addYawnsToAll 2 = .ok (.iload_n 2, 1) := by decide +kernel
theorem dX1_addYawnsToAll_3 : decode cX1_addYawnsToAll 3 = .ok (.aload_n 0, 1) := by decide +kernel
theorem dX1_addYawnsToAll_4 : decode cX1_addYawnsToAll 4 = .ok (.getfield 15, 3) := by decide +kernel
theorem dX1_addYawnsToAll_7 : decode cX1_addYawnsToAll 7 = .ok (.if_icmp .ge 15, 3) := by decide +kernel
theorem dX1_addYawnsToAll_10 : decode cX1_addYawnsToAll 10 = .ok (.aload_n 0, 1) := by decide +kernel
theorem dX1_addYawnsToAll_11 : decode cX1_addYawnsToAll 11 = .ok (.iload_n 2, 1) := by decide +kernel
theorem dX1_addYawnsToAll_12 : decode cX1_addYawnsToAll 12 = .ok (.iload_n 1, 1) := by decide +kernel
theorem dX1_addYawnsToAll_13 : decode cX1_addYawnsToAll 13 = .ok (.invokevirtual 38, 3) := by decide +kernel
theorem dX1_addYawnsToAll_16 : decode cX1_addYawnsToAll 16 = .ok (.iinc 2 1, 3) := by decide +kernel
theorem dX1_addYawnsToAll_19 : decode cX1_addYawnsToAll 19 = .ok (.goto (-17), 3) := by decide +kernel
theorem dX1_addYawnsToAll_22 : decode cX1_addYawnsToAll 22 = .ok (.return_, 1) := by decide +kernel
theorem dX1_join_0 : decode cX1_join 0 = .ok (.aload_n 0, 1) := by decide +kernel
theorem dX1_join_1 : decode cX1_join 1 = .ok (.getfield 15, 3) := by decide +kernel
theorem dX1_join_4 : decode cX1_join 4 = .ok (.iconst 4, 1) := by decide +kernel
theorem dX1_join_5 : decode cX1_join 5 = .ok (.if_icmp .ge 23, 3) := by decide +kernel
theorem dX1_join_8 : decode cX1_join 8 = .ok (.aload_n 0, 1) := by decide +kernel
theorem dX1_join_9 : decode cX1_join 9 = .ok (.getfield 9, 3) := by decide +kernel
theorem dX1_join_12 : decode cX1_join 12 = .ok (.aload_n 0, 1) := by decide +kernel
theorem dX1_join_13 : decode cX1_join 13 = .ok (.getfield 15, 3) := by decide +kernel
theorem dX1_join_16 : decode cX1_join 16 = .ok (.iconst 0, 1) := by decide +kernel
theorem dX1_join_17 : decode cX1_join 17 = .ok (.iastore, 1) := by decide +kernel
theorem dX1_join_18 : decode cX1_join 18 = .ok (.aload_n 0, 1) := by decide +kernel
theorem dX1_join_19 : decode cX1_join 19 = .ok (.dup, 1) := by decide +kernel
theorem dX1_join_20 : decode cX1_join 20 = .ok (.getfield 15, 3) := by decide +kernel
theorem dX1_join_23 : decode cX1_join 23 = .ok (.iconst 1, 1) := by decide +kernel
theorem dX1_join_24 : decode cX1_join 24 = .ok (.iadd, 1) := by decide +kernel
theorem dX1_join_25 : decode cX1_join 25 = .ok (.putfield 15, 3) := by decide +kernel
theorem dX1_join_28 : decode cX1_join 28 = .ok (.aload_n 0, 1) := by decide +kernel
theorem dX1_join_29 : decode cX1_join 29 = .ok (.getfield 15, 3) := by decide +kernel
theorem dX1_join_32 : decode cX1_join 32 = .ok (.iconst 1, 1) := by decide +kernel
theorem dX1_join_33 : decode cX1_join 33 = .ok (.isub, 1) := by decide +kernel
theorem dX1_join_34 : decode cX1_join 34 = .ok (.ireturn, 1) := by decide +kernel
set_option maxRecDepth 20000 in
theorem ggX1_part_X1_yawned : GoodIn wsX1_part wsX1_yawned := goodIn_ca (goodIn_r _ [11, 1, 12, 13, 14, 10, 15, 2, 16, 17] (by decide +kernel) (by decide +kernel)) (goodIn_sub (fun _ h => List.mem_cons_of_mem _ (List.mem_append_right _ h)) (by decide +kernel))
set_option maxRecDepth 20000 in
theorem gX1_part_X1_yawned : GoodIn wsX1_part (wsV RX1 42 RX1 yX1_yawned wsX1_yawned) := goodIn_app (goodIn_of _ (by decide +kernel)) ggX1_part_X1_yawned
set_option maxRecDepth 20000 in
theorem ggX1_part_X1_has : GoodIn wsX1_part wsX1_has := goodIn_r _ [15, 2, 16, 17] (by decide +kernel) (by decide +kernel)
set_option maxRecDepth 20000 in
theorem gX1_part_X1_has : GoodIn wsX1_part (wsV RX1 25 RX1 yX1_has wsX1_has) := goodIn_app (goodIn_of _ (by decide +kernel)) ggX1_part_X1_has
theorem dX1_part_0 : decode cX1_part 0 = .ok (.aload_n 0, 1) := by decide +kernel
theorem dX1_part_1 : decode cX1_part 1 = .ok (.iload_n 1, 1) := by decide +kernel
theorem dX1_part_2 : decode cX1_part 2 = .ok (.invokevirtual 42, 3) := by decide +kernel
theorem dX1_part_5 : decode cX1_part 5 = .ok (.istore_n 2, 1) := by decide +kernel
theorem dX1_part_6 : decode cX1_part 6 = .ok (.aload_n 0, 1) := by decide +kernel
theorem dX1_part_7 : decode cX1_part 7 = .ok (.iload_n 1, 1) := by decide +kernel
theorem dX1_part_8 : decode cX1_part 8 = .ok (.invokevirtual 25, 3) := by decide +kernel
theorem dX1_part_11 : decode cX1_part 11 = .ok (.ifCond .eq 36, 3) := by decide +kernel
theorem dX1_part_14 : decode cX1_part 14 = .ok (.aload_n 0, 1) := by decide +kernel
theorem dX1_part_15 : decode cX1_part 15 = .ok (.getfield 9, 3) := by decide +kernel
theorem dX1_part_18 : decode cX1_part 18 = .ok (.iload_n 1, 1) := by decide +kernel
theorem dX1_part_19 : decode cX1_part 19 = .ok (.iconst 1, 1) := by decide +kernel
theorem dX1_part_20 : decode cX1_part 20 = .ok (.iadd, 1) := by decide +kernel
theorem dX1_part_21 : decode cX1_part 21 = .ok (.aload_n 0, 1) := by decide +kernel
theorem dX1_part_22 : decode cX1_part 22 = .ok (.getfield 9, 3) := by decide +kernel
theorem dX1_part_25 : decode cX1_part 25 = .ok (.iload_n 1, 1) := by decide +kernel
theorem dX1_part_26 : decode cX1_part 26 = .ok (.aload_n 0, 1) := by decide +kernel
theorem dX1_part_27 : decode cX1_part 27 = .ok (.getfield 15, 3) := by decide +kernel
theorem dX1_part_30 : decode cX1_part 30 = .ok (.iload_n 1, 1) := by decide +kernel
theorem dX1_part_31 : decode cX1_part 31 = .ok (.isub, 1) := by decide +kernel
theorem dX1_part_32 : decode cX1_part 32 = .ok (.iconst 1, 1) := by decide +kernel
theorem dX1_part_33 : decode cX1_part 33 = .ok (.isub, 1) := by decide +kernel
theorem dX1_part_34 : decode cX1_part 34 = .ok (.invokestatic 19, 3) := by decide +kernel
theorem dX1_part_37 : decode cX1_part 37 = .ok (.aload_n 0, 1) := by decide +kernel
theorem dX1_part_38 : decode cX1_part 38 = .ok (.dup, 1) := by decide +kernel
theorem dX1_part_39 : decode cX1_part 39 = .ok (.getfield 15, 3) := by decide +kernel
theorem dX1_part_42 : decode cX1_part 42 = .ok (.iconst 1, 1) := by decide +kernel
theorem dX1_part_43 : decode cX1_part 43 = .ok (.isub, 1) := by decide +kernel
theorem dX1_part_44 : decode cX1_part 44 = .ok (.putfield 15, 3) := by decide +kernel
theorem dX1_part_47 : decode cX1_part 47 = .ok (.iload_n 2, 1) := by decide +kernel
theorem dX1_part_48 : decode cX1_part 48 = .ok (.ireturn, 1) := by decide +kernel
set_option maxRecDepth 20000 in
theorem ggX1_freshAt_X1_howManyAhead : GoodIn wsX1_freshAt wsX1_howManyAhead := goodIn_ca (goodIn_r _ [6, 1, 7, 8, 9] (by decide +kernel) (by decide +kernel)) (goodIn_sub (fun _ h => List.mem_cons_of_mem _ (List.mem_append_right _ h)) (by decide +kernel))
set_option maxRecDepth 20000 in
theorem gX1_freshAt_X1_howManyAhead : GoodIn wsX1_freshAt (wsV RX1 46 RX1 yX1_howManyAhead wsX1_howManyAhead) := goodIn_app (goodIn_of _ (by decide +kernel)) ggX1_freshAt_X1_howManyAhead
theorem dX1_freshAt_0 : decode cX1_freshAt 0 = .ok (.iconst 0, 1) := by decide +kernel
theorem dX1_freshAt_1 : decode cX1_freshAt 1 = .ok (.istore_n 2, 1) := by decide +kernel
theorem dX1_freshAt_2 : decode cX1_freshAt 2 = .ok (.iload_n 2, 1) := by decide +kernel
theorem dX1_freshAt_3 : decode cX1_freshAt 3 = .ok (.aload_n 0, 1) := by decide +kernel
theorem dX1_freshAt_4 : decode cX1_freshAt 4 = .ok (.getfield 15, 3) := by decide +kernel
theorem dX1_freshAt_7 : decode cX1_freshAt 7 = .ok (.if_icmp .ge 20, 3) := by decide +kernel
theorem dX1_freshAt_10 : decode cX1_freshAt 10 = .ok (.aload_n 0, 1) := by decide +kernel
theorem dX1_freshAt_11 : decode cX1_freshAt 11 = .ok (.iload_n 2, 1) := by decide +kernel
theorem dX1_freshAt_12 : decode cX1_freshAt 12 = .ok (.invokevirtual 46, 3) := by decide +kernel
theorem dX1_freshAt_15 : decode cX1_freshAt 15 = .ok (.iload_n 1, 1) := by decide +kernel
theorem dX1_freshAt_16 : decode cX1_freshAt 16 = .ok (.if_icmp .ne 5, 3) := by decide +kernel
theorem dX1_freshAt_19 : decode cX1_freshAt 19 = .ok (.iload_n 2, 1) := by decide +kernel
theorem dX1_freshAt_20 : decode cX1_freshAt 20 = .ok (.ireturn, 1) := by decide +kernel
theorem dX1_freshAt_21 : decode cX1_freshAt 21 = .ok (.iinc 2 1, 3) := by decide +kernel
theorem dX1_freshAt_24 : decode cX1_freshAt 24 = .ok (.goto (-22), 3) := by decide +kernel
theorem dX1_freshAt_27 : decode cX1_freshAt 27 = .ok (.iconst (-1), 1) := by decide +kernel
theorem dX1_freshAt_28 : decode cX1_freshAt 28 = .ok (.ireturn, 1) := by decide +kernel
theorem dX1_howManyAhead_0 : decode cX1_howManyAhead 0 = .ok (.iconst 0, 1) := by decide +kernel
theorem dX1_howManyAhead_1 : decode cX1_howManyAhead 1 = .ok (.istore_n 2, 1) := by decide +kernel
theorem dX1_howManyAhead_2 : decode cX1_howManyAhead 2 = .ok (.iconst 0, 1) := by decide +kernel
theorem dX1_howManyAhead_3 : decode cX1_howManyAhead 3 = .ok (.istore_n 3, 1) := by decide +kernel
theorem dX1_howManyAhead_4 : decode cX1_howManyAhead 4 = .ok (.iload_n 3, 1) := by decide +kernel
theorem dX1_howManyAhead_5 : decode cX1_howManyAhead 5 = .ok (.aload_n 0, 1) := by decide +kernel
theorem dX1_howManyAhead_6 : decode cX1_howManyAhead 6 = .ok (.getfield 15, 3) := by decide +kernel
theorem dX1_howManyAhead_9 : decode cX1_howManyAhead 9 = .ok (.if_icmp .ge 76, 3) := by decide +kernel
theorem dX1_howManyAhead_12 : decode cX1_howManyAhead 12 = .ok (.aload_n 0, 1) := by decide +kernel
theorem dX1_howManyAhead_13 : decode cX1_howManyAhead 13 = .ok (.getfield 9, 3) := by decide +kernel
theorem dX1_howManyAhead_16 : decode cX1_howManyAhead 16 = .ok (.iload_n 3, 1) := by decide +kernel
theorem dX1_howManyAhead_17 : decode cX1_howManyAhead 17 = .ok (.iaload, 1) := by decide +kernel
theorem dX1_howManyAhead_18 : decode cX1_howManyAhead 18 = .ok (.aload_n 0, 1) := by decide +kernel
theorem dX1_howManyAhead_19 : decode cX1_howManyAhead 19 = .ok (.getfield 9, 3) := by decide +kernel
theorem dX1_howManyAhead_22 : decode cX1_howManyAhead 22 = .ok (.iload_n 1, 1) := by decide +kernel
theorem dX1_howManyAhead_23 : decode cX1_howManyAhead 23 = .ok (.iaload, 1) := by decide +kernel
theorem dX1_howManyAhead_24 : decode cX1_howManyAhead 24 = .ok (.if_icmp .ge 7, 3) := by decide +kernel
theorem dX1_howManyAhead_27 : decode cX1_howManyAhead 27 = .ok (.iconst 1, 1) := by decide +kernel
theorem dX1_howManyAhead_28 : decode cX1_howManyAhead 28 = .ok (.goto 4, 3) := by decide +kernel
theorem dX1_howManyAhead_31 : decode cX1_howManyAhead 31 = .ok (.iconst 0, 1) := by decide +kernel
theorem dX1_howManyAhead_32 : decode cX1_howManyAhead 32 = .ok (.istore 4, 2) := by decide +kernel
theorem dX1_howManyAhead_34 : decode cX1_howManyAhead 34 = .ok (.aload_n 0, 1) := by decide +kernel
theorem dX1_howManyAhead_35 : decode cX1_howManyAhead 35 = .ok (.getfield 9, 3) := by decide +kernel
theorem dX1_howManyAhead_38 : decode cX1_howManyAhead 38 = .ok (.iload_n 3, 1) := by decide +kernel
theorem dX1_howManyAhead_39 : decode cX1_howManyAhead 39 = .ok (.iaload, 1) := by decide +kernel
theorem dX1_howManyAhead_40 : decode cX1_howManyAhead 40 = .ok (.aload_n 0, 1) := by decide +kernel
theorem dX1_howManyAhead_41 : decode cX1_howManyAhead 41 = .ok (.getfield 9, 3) := by decide +kernel
theorem dX1_howManyAhead_44 : decode cX1_howManyAhead 44 = .ok (.iload_n 1, 1) := by decide +kernel
theorem dX1_howManyAhead_45 : decode cX1_howManyAhead 45 = .ok (.iaload, 1) := by decide +kernel
theorem dX1_howManyAhead_46 : decode cX1_howManyAhead 46 = .ok (.if_icmp .ne 12, 3) := by decide +kernel
theorem dX1_howManyAhead_49 : decode cX1_howManyAhead 49 = .ok (.iload_n 3, 1) := by decide +kernel
theorem dX1_howManyAhead_50 : decode cX1_howManyAhead 50 = .ok (.iload_n 1, 1) := by decide +kernel
theorem dX1_howManyAhead_51 : decode cX1_howManyAhead 51 = .ok (.if_icmp .ge 7, 3) := by decide +kernel
theorem dX1_howManyAhead_54 : decode cX1_howManyAhead 54 = .ok (.iconst 1, 1) := by decide +kernel
theorem dX1_howManyAhead_55 : decode cX1_howManyAhead 55 = .ok (.goto 4, 3) := by decide +kernel
theorem dX1_howManyAhead_58 : decode cX1_howManyAhead 58 = .ok (.iconst 0, 1) := by decide +kernel
theorem dX1_howManyAhead_59 : decode cX1_howManyAhead 59 = .ok (.istore 5, 2) := by decide +kernel
theorem dX1_howManyAhead_61 : decode cX1_howManyAhead 61 = .ok (.iload_n 2, 1) := by decide +kernel
theorem dX1_howManyAhead_62 : decode cX1_howManyAhead 62 = .ok (.iload 4, 2) := by decide +kernel
theorem dX1_howManyAhead_64 : decode cX1_howManyAhead 64 = .ok (.ifCond .ne 8, 3) := by decide +kernel
theorem dX1_howManyAhead_67 : decode cX1_howManyAhead 67 = .ok (.iload 5, 2) := by decide +kernel
theorem dX1_howManyAhead_69 : decode cX1_howManyAhead 69 = .ok (.ifCond .eq 7, 3) := by decide +kernel
theorem dX1_howManyAhead_72 : decode cX1_howManyAhead 72 = .ok (.iconst 1, 1) := by decide +kernel
theorem dX1_howManyAhead_73 : decode cX1_howManyAhead 73 = .ok (.goto 4, 3) := by decide +kernel
theorem dX1_howManyAhead_76 : decode cX1_howManyAhead 76 = .ok (.iconst 0, 1) := by decide +kernel
theorem dX1_howManyAhead_77 : decode cX1_howManyAhead 77 = .ok (.iadd, 1) := by decide +kernel
theorem dX1_howManyAhead_78 : decode cX1_howManyAhead 78 = .ok (.istore_n 2, 1) := by decide +kernel
theorem dX1_howManyAhead_79 : decode cX1_howManyAhead 79 = .ok (.iinc 3 1, 3) := by decide +kernel
theorem dX1_howManyAhead_82 : decode cX1_howManyAhead 82 = .ok (.goto (-78), 3) := by decide +kernel
theorem dX1_howManyAhead_85 : decode cX1_howManyAhead 85 = .ok (.iload_n 2, 1) := by decide +kernel
theorem dX1_howManyAhead_86 : decode cX1_howManyAhead 86 = .ok (.ireturn, 1) := by decide +kernel
theorem dX1_isLeftOut_0 : decode cX1_isLeftOut 0 = .ok (.iload_n 0, 1) := by decide +kernel
theorem dX1_isLeftOut_1 : decode cX1_isLeftOut 1 = .ok (.lookupswitch 41 #[(1, 27), (2, 29)], 27) := by decide +kernel
theorem dX1_isLeftOut_28 : decode cX1_isLeftOut 28 = .ok (.iconst 0, 1) := by decide +kernel
theorem dX1_isLeftOut_29 : decode cX1_isLeftOut 29 = .ok (.ireturn, 1) := by decide +kernel
theorem dX1_isLeftOut_30 : decode cX1_isLeftOut 30 = .ok (.iload_n 1, 1) := by decide +kernel
theorem dX1_isLeftOut_31 : decode cX1_isLeftOut 31 = .ok (.bipush 9, 2) := by decide +kernel
theorem dX1_isLeftOut_33 : decode cX1_isLeftOut 33 = .ok (.if_icmp .lt 7, 3) := by decide +kernel
theorem dX1_isLeftOut_36 : decode cX1_isLeftOut 36 = .ok (.iconst 1, 1) := by decide +kernel
theorem dX1_isLeftOut_37 : decode cX1_isLeftOut 37 = .ok (.goto 4, 3) := by decide +kernel
theorem dX1_isLeftOut_40 : decode cX1_isLeftOut 40 = .ok (.iconst 0, 1) := by decide +kernel
theorem dX1_isLeftOut_41 : decode cX1_isLeftOut 41 = .ok (.ireturn, 1) := by decide +kernel
theorem dX1_isLeftOut_42 : decode cX1_isLeftOut 42 = .ok (.iload_n 1, 1) := by decide +kernel
theorem dX1_isLeftOut_43 : decode cX1_isLeftOut 43 = .ok (.bipush 6, 2) := by decide +kernel
theorem dX1_isLeftOut_45 : decode cX1_isLeftOut 45 = .ok (.if_icmp .lt 7, 3) := by decide +kernel
theorem dX1_isLeftOut_48 : decode cX1_isLeftOut 48 = .ok (.iconst 1, 1) := by decide +kernel
theorem dX1_isLeftOut_49 : decode cX1_isLeftOut 49 = .ok (.goto 4, 3) := by decide +kernel
theorem dX1_isLeftOut_52 : decode cX1_isLeftOut 52 = .ok (.iconst 0, 1) := by decide +kernel
theorem dX1_isLeftOut_53 : decode cX1_isLeftOut 53 = .ok (.ireturn, 1) := by decide +kernel
set_option maxRecDepth 20000 in
theorem ggX2_init_X5_init : GoodIn wsX2_init wsX5_init := goodIn_r _ [11, 12, 2, 3, 13, 14, 15, 16, 17, 18, 19, 20, 21, 22, 23, 24, 25, 26, 27, 28, 29, 30, 31, 32, 33, 34, 35, 36, 37, 38, 39, 40, 41, 42, 43, 44, 45, 46, 47, 48, 49, 50, 51, 52, 53, 68, 69, 70, 71, 72, 73, 57, 58, 59, 60, 61, 62, 63, 64, 65, 66, 67, 74, 75, 76, 77] (by decide +kernel) (by decide +kernel)
set_option maxRecDepth 20000 in
theorem gX2_init_X5_init_n24 : GoodIn wsX2_init (wsX5_init) := ggX2_init_X5_init
theorem dX2_init_0 : decode cX2_init 0 = .ok (.aload_n 0, 1) := by decide +kernel
theorem dX2_init_1 : decode cX2_init 1 = .ok (.invokespecial 3, 3) := by decide +kernel
theorem dX2_init_4 : decode cX2_init 4 = .ok (.aload_n 0, 1) := by decide +kernel
theorem dX2_init_5 : decode cX2_init 5 = .ok (.bipush 8, 2) := by decide +kernel
theorem dX2_init_7 : decode cX2_init 7 = .ok (.anewarray 9, 3) := by decide +kernel
theorem dX2_init_10 : decode cX2_init 10 = .ok (.putfield 11, 3) := by decide +kernel
theorem dX2_init_13 : decode cX2_init 13 = .ok (.aload_n 0, 1) := by decide +kernel
theorem dX2_init_14 : decode cX2_init 14 = .ok (.iconst 0, 1) := by decide +kernel
theorem dX2_init_15 : decode cX2_init 15 = .ok (.putfield 17, 3) := by decide +kernel
theorem dX2_init_18 : decode cX2_init 18 = .ok (.aload_n 0, 1) := by decide +kernel
theorem dX2_init_19 : decode cX2_init 19 = .ok (.iconst 0, 1) := by decide +kernel
theorem dX2_init_20 : decode cX2_init 20 = .ok (.putfield 21, 3) := by decide +kernel
theorem dX2_init_23 : decode cX2_init 23 = .ok (.iconst 0, 1) := by decide +kernel
theorem dX2_init_24 : decode cX2_init 24 = .ok (.istore_n 1, 1) := by decide +kernel
theorem dX2_init_25 : decode cX2_init 25 = .ok (.iload_n 1, 1) := by decide +kernel
theorem dX2_init_26 : decode cX2_init 26 = .ok (.bipush 8, 2) := by decide +kernel
theorem dX2_init_28 : decode cX2_init 28 = .ok (.if_icmp .ge 22, 3) := by decide +kernel
theorem dX2_init_31 : decode cX2_init 31 = .ok (.aload_n 0, 1) := by decide +kernel
theorem dX2_init_32 : decode cX2_init 32 = .ok (.getfield 11, 3) := by decide +kernel
theorem dX2_init_35 : decode cX2_init 35 = .ok (.iload_n 1, 1) := by decide +kernel
theorem dX2_init_36 : decode cX2_init 36 = .ok (.new 9, 3) := by decide +kernel
theorem dX2_init_39 : decode cX2_init 39 = .ok (.dup, 1) := by decide +kernel
theorem dX2_init_40 : decode cX2_init 40 = .ok (.invokespecial 24, 3) := by decide +kernel
theorem dX2_init_43 : decode cX2_init 43 = .ok (.aastore, 1) := by decide +kernel
theorem dX2_init_44 : decode cX2_init 44 = .ok (.iinc 1 1, 3) := by decide +kernel
theorem dX2_init_47 : decode cX2_init 47 = .ok (.goto (-22), 3) := by decide +kernel
theorem dX2_init_50 : decode cX2_init 50 = .ok (.return_, 1) := by decide +kernel
set_option maxRecDepth 20000 in
theorem ggX2_remember_X5_copyFrom : GoodIn wsX2_remember wsX5_copyFrom := goodIn_r _ [12, 13, 14, 15, 16, 17, 18, 19, 20, 21, 22, 23, 24, 25, 26, 27, 28, 29, 30, 31, 32, 33, 34, 35, 36, 37, 38, 39, 40, 41, 42, 43, 44, 45, 46, 47, 48, 49, 50, 51, 52, 53, 54, 58, 59, 60, 61, 62, 63, 64, 65, 66, 67, 68, 69, 70, 71, 72, 73, 74, 75, 76, 77, 78] (by decide +kernel) (by decide +kernel)
set_option maxRecDepth 20000 in
theorem gX2_remember_X5_copyFrom : GoodIn wsX2_remember (wsV RX2 25 RX5 yX5_copyFrom wsX5_copyFrom) := goodIn_app (goodIn_of _ (by decide +kernel)) ggX2_remember_X5_copyFrom
theorem dX2_remember_0 : decode cX2_remember 0 = .ok (.aload_n 0, 1) := by decide +kernel
theorem dX2_remember_1 : decode cX2_remember 1 = .ok (.getfield 11, 3) := by decide +kernel
theorem dX2_remember_4 : decode cX2_remember 4 = .ok (.aload_n 0, 1) := by decide +kernel
theorem dX2_remember_5 : decode cX2_remember 5 = .ok (.getfield 17, 3) := by decide +kernel
theorem dX2_remember_8 : decode cX2_remember 8 = .ok (.aaload, 1) := by decide +kernel
theorem dX2_remember_9 : decode cX2_remember 9 = .ok (.aload_n 1, 1) := by decide +kernel
theorem dX2_remember_10 : decode cX2_remember 10 = .ok (.invokevirtual 25, 3) := by decide +kernel
theorem dX2_remember_13 : decode cX2_remember 13 = .ok (.aload_n 0, 1) := by decide +kernel
theorem dX2_remember_14 : decode cX2_remember 14 = .ok (.aload_n 0, 1) := by decide +kernel
theorem dX2_remember_15 : decode cX2_remember 15 = .ok (.getfield 17, 3) := by decide +kernel
theorem dX2_remember_18 : decode cX2_remember 18 = .ok (.iconst 1, 1) := by decide +kernel
theorem dX2_remember_19 : decode cX2_remember 19 = .ok (.iadd, 1) := by decide +kernel
theorem dX2_remember_20 : decode cX2_remember 20 = .ok (.bipush 8, 2) := by decide +kernel
theorem dX2_remember_22 : decode cX2_remember 22 = .ok (.irem, 1) := by decide +kernel
theorem dX2_remember_23 : decode cX2_remember 23 = .ok (.putfield 17, 3) := by decide +kernel
theorem dX2_remember_26 : decode cX2_remember 26 = .ok (.aload_n 0, 1) := by decide +kernel
theorem dX2_remember_27 : decode cX2_remember 27 = .ok (.aload_n 0, 1) := by decide +kernel
theorem dX2_remember_28 : decode cX2_remember 28 = .ok (.getfield 21, 3) := by decide +kernel
theorem dX2_remember_31 : decode cX2_remember 31 = .ok (.iconst 1, 1) := by decide +kernel
theorem dX2_remember_32 : decode cX2_remember 32 = .ok (.iadd, 1) := by decide +kernel
theorem dX2_remember_33 : decode cX2_remember 33 = .ok (.bipush 8, 2) := by decide +kernel
theorem dX2_remember_35 : decode cX2_remember 35 = .ok (.invokestatic 29, 3) := by decide +kernel
theorem dX2_remember_38 : decode cX2_remember 38 = .ok (.putfield 21, 3) := by decide +kernel
theorem dX2_remember_41 : decode cX2_remember 41 = .ok (.return_, 1) := by decide +kernel
set_option maxRecDepth 20000 in
theorem ggX2_takeBack_X5_copyFrom : GoodIn wsX2_takeBack wsX5_copyFrom := goodIn_r _ [8, 9, 10, 11, 12, 13, 14, 15, 16, 17, 18, 19, 20, 21, 22, 23, 24, 25, 26, 27, 28, 29, 30, 31, 32, 33, 34, 35, 36, 37, 38, 39, 40, 41, 42, 43, 44, 45, 46, 47, 48, 49, 50, 54, 55, 56, 57, 58, 59, 60, 61, 62, 63, 64, 65, 66, 67, 68, 69, 70, 71, 72, 73, 74] (by decide +kernel) (by decide +kernel)
set_option maxRecDepth 20000 in
theorem gX2_takeBack_X5_copyFrom : GoodIn wsX2_takeBack (wsV RX2 25 RX5 yX5_copyFrom wsX5_copyFrom) := goodIn_app (goodIn_of _ (by decide +kernel)) ggX2_takeBack_X5_copyFrom
theorem dX2_takeBack_0 : decode cX2_takeBack 0 = .ok (.aload_n 0, 1) := by decide +kernel
theorem dX2_takeBack_1 : decode cX2_takeBack 1 = .ok (.aload_n 0, 1) := by decide +kernel
theorem dX2_takeBack_2 : decode cX2_takeBack 2 = .ok (.getfield 17, 3) := by decide +kernel
theorem dX2_takeBack_5 : decode cX2_takeBack 5 = .ok (.bipush 8, 2) := by decide +kernel
theorem dX2_takeBack_7 : decode cX2_takeBack 7 = .ok (.iadd, 1) := by decide +kernel
theorem dX2_takeBack_8 : decode cX2_takeBack 8 = .ok (.iconst 1, 1) := by decide +kernel
theorem dX2_takeBack_9 : decode cX2_takeBack 9 = .ok (.isub, 1) := by decide +kernel
theorem dX2_takeBack_10 : decode cX2_takeBack 10 = .ok (.bipush 8, 2) := by decide +kernel
theorem dX2_takeBack_12 : decode cX2_takeBack 12 = .ok (.irem, 1) := by decide +kernel
theorem dX2_takeBack_13 : decode cX2_takeBack 13 = .ok (.putfield 17, 3) := by decide +kernel
theorem dX2_takeBack_16 : decode cX2_takeBack 16 = .ok (.aload_n 1, 1) := by decide +kernel
theorem dX2_takeBack_17 : decode cX2_takeBack 17 = .ok (.aload_n 0, 1) := by decide +kernel
theorem dX2_takeBack_18 : decode cX2_takeBack 18 = .ok (.getfield 11, 3) := by decide +kernel
theorem dX2_takeBack_21 : decode cX2_takeBack 21 = .ok (.aload_n 0, 1) := by decide +kernel
theorem dX2_takeBack_22 : decode cX2_takeBack 22 = .ok (.getfield 17, 3) := by decide +kernel
theorem dX2_takeBack_25 : decode cX2_takeBack 25 = .ok (.aaload, 1) := by decide +kernel
theorem dX2_takeBack_26 : decode cX2_takeBack 26 = .ok (.invokevirtual 25, 3) := by decide +kernel
theorem dX2_takeBack_29 : decode cX2_takeBack 29 = .ok (.aload_n 0, 1) := by decide +kernel
theorem dX2_takeBack_30 : decode cX2_takeBack 30 = .ok (.dup, 1) := by decide +kernel
theorem dX2_takeBack_31 : decode cX2_takeBack 31 = .ok (.getfield 21, 3) := by decide +kernel
theorem dX2_takeBack_34 : decode cX2_takeBack 34 = .ok (.iconst 1, 1) := by decide +kernel
theorem dX2_takeBack_35 : decode cX2_takeBack 35 = .ok (.isub, 1) := by decide +kernel
theorem dX2_takeBack_36 : decode cX2_takeBack 36 = .ok (.putfield 21, 3) := by decide +kernel
theorem dX2_takeBack_39 : decode cX2_takeBack 39 = .ok (.return_, 1) := by decide +kernel
theorem dX3_init_0 : decode cX3_init 0 = .ok (.aload_n 0, 1) := by decide +kernel
theorem dX3_init_1 : decode cX3_init 1 = .ok (.invokespecial 3, 3) := by decide +kernel
theorem dX3_init_4 : decode cX3_init 4 = .ok (.aload_n 0, 1) := by decide +kernel
theorem dX3_init_5 : decode cX3_init 5 = .ok (.bipush 60, 2) := by decide +kernel
theorem dX3_init_7 : decode cX3_init 7 = .ok (.newarray .char, 2) := by decide +kernel
theorem dX3_init_9 : decode cX3_init 9 = .ok (.putfield 9, 3) := by decide +kernel
theorem dX3_init_12 : decode cX3_init 12 = .ok (.aload_n 0, 1) := by decide +kernel
theorem dX3_init_13 : decode cX3_init 13 = .ok (.iconst 0, 1) := by decide +kernel
theorem dX3_init_14 : decode cX3_init 14 = .ok (.putfield 15, 3) := by decide +kernel
theorem dX3_init_17 : decode cX3_init 17 = .ok (.return_, 1) := by decide +kernel
theorem dX3_add_0 : decode cX3_add 0 = .ok (.aload_n 0, 1) := by decide +kernel
theorem dX3_add_1 : decode cX3_add 1 = .ok (.getfield 15, 3) := by decide +kernel
theorem dX3_add_4 : decode cX3_add 4 = .ok (.bipush 60, 2) := by decide +kernel
theorem dX3_add_6 : decode cX3_add 6 = .ok (.if_icmp .ge 23, 3) := by decide +kernel
theorem dX3_add_9 : decode cX3_add 9 = .ok (.aload_n 0, 1) := by decide +kernel
theorem dX3_add_10 : decode cX3_add 10 = .ok (.getfield 9, 3) := by decide +kernel
theorem dX3_add_13 : decode cX3_add 13 = .ok (.aload_n 0, 1) := by decide +kernel
theorem dX3_add_14 : decode cX3_add 14 = .ok (.getfield 15, 3) := by decide +kernel
theorem dX3_add_17 : decode cX3_add 17 = .ok (.iload_n 1, 1) := by decide +kernel
theorem dX3_add_18 : decode cX3_add 18 = .ok (.castore, 1) := by decide +kernel
theorem dX3_add_19 : decode cX3_add 19 = .ok (.aload_n 0, 1) := by decide +kernel
theorem dX3_add_20 : decode cX3_add 20 = .ok (.dup, 1) := by decide +kernel
theorem dX3_add_21 : decode cX3_add 21 = .ok (.getfield 15, 3) := by decide +kernel
theorem dX3_add_24 : decode cX3_add 24 = .ok (.iconst 1, 1) := by decide +kernel
theorem dX3_add_25 : decode cX3_add 25 = .ok (.iadd, 1) := by decide +kernel
theorem dX3_add_26 : decode cX3_add 26 = .ok (.putfield 15, 3) := by decide +kernel
theorem dX3_add_29 : decode cX3_add 29 = .ok (.return_, 1) := by decide +kernel
theorem dX3_signAt_0 : decode cX3_signAt 0 = .ok (.iload_n 1, 1) := by decide +kernel
theorem dX3_signAt_1 : decode cX3_signAt 1 = .ok (.ifCond .lt 18, 3) := by decide +kernel
theorem dX3_signAt_4 : decode cX3_signAt 4 = .ok (.iload_n 1, 1) := by decide +kernel
theorem dX3_signAt_5 : decode cX3_signAt 5 = .ok (.bipush 60, 2) := by decide +kernel
theorem dX3_signAt_7 : decode cX3_signAt 7 = .ok (.if_icmp .ge 12, 3) := by decide +kernel
theorem dX3_signAt_10 : decode cX3_signAt 10 = .ok (.aload_n 0, 1) := by decide +kernel
theorem dX3_signAt_11 : decode cX3_signAt 11 = .ok (.getfield 9, 3) := by decide +kernel
theorem dX3_signAt_14 : decode cX3_signAt 14 = .ok (.iload_n 1, 1) := by decide +kernel
theorem dX3_signAt_15 : decode cX3_signAt 15 = .ok (.caload, 1) := by decide +kernel
theorem dX3_signAt_16 : decode cX3_signAt 16 = .ok (.goto 4, 3) := by decide +kernel
theorem dX3_signAt_19 : decode cX3_signAt 19 = .ok (.iconst 0, 1) := by decide +kernel
theorem dX3_signAt_20 : decode cX3_signAt 20 = .ok (.ireturn, 1) := by decide +kernel
set_option maxRecDepth 20000 in
theorem ggX3_numberAt_X3_signAt : GoodIn wsX3_numberAt wsX3_signAt := goodIn_ca (goodIn_r _ [5, 6, 10, 11] (by decide +kernel) (by decide +kernel)) (goodIn_sub (fun _ h => List.mem_cons_of_mem _ (List.mem_append_right _ h)) (by decide +kernel))
set_option maxRecDepth 20000 in
theorem gX3_numberAt_X3_signAt : GoodIn wsX3_numberAt (wsV RX3 19 RX3 yX3_signAt wsX3_signAt) := goodIn_app (goodIn_of _ (by decide +kernel)) ggX3_numberAt_X3_signAt
set_option maxRecDepth 20000 in
theorem ggX3_numberAt_X3_isDigit : GoodIn wsX3_numberAt wsX3_isDigit := goodIn_r _ [9] (by decide +kernel) (by decide +kernel)
set_option maxRecDepth 20000 in
theorem gX3_numberAt_X3_isDigit : GoodIn wsX3_numberAt (va_wsS RX3 23 yX3_isDigit wsX3_isDigit) := goodIn_app (goodIn_of _ (by decide +kernel)) ggX3_numberAt_X3_isDigit
theorem dX3_numberAt_0 : decode cX3_numberAt 0 = .ok (.aload_n 0, 1) := by decide +kernel
theorem dX3_numberAt_1 : decode cX3_numberAt 1 = .ok (.iload_n 1, 1) := by decide +kernel
theorem dX3_numberAt_2 : decode cX3_numberAt 2 = .ok (.invokevirtual 19, 3) := by decide +kernel
theorem dX3_numberAt_5 : decode cX3_numberAt 5 = .ok (.istore_n 2, 1) := by decide +kernel
theorem dX3_numberAt_6 : decode cX3_numberAt 6 = .ok (.iload_n 2, 1) := by decide +kernel
theorem dX3_numberAt_7 : decode cX3_numberAt 7 = .ok (.invokestatic 23, 3) := by decide +kernel
theorem dX3_numberAt_10 : decode cX3_numberAt 10 = .ok (.ifCond .eq 10, 3) := by decide +kernel
theorem dX3_numberAt_13 : decode cX3_numberAt 13 = .ok (.iload_n 2, 1) := by decide +kernel
theorem dX3_numberAt_14 : decode cX3_numberAt 14 = .ok (.bipush 48, 2) := by decide +kernel
theorem dX3_numberAt_16 : decode cX3_numberAt 16 = .ok (.isub, 1) := by decide +kernel
theorem dX3_numberAt_17 : decode cX3_numberAt 17 = .ok (.goto 4, 3) := by decide +kernel
theorem dX3_numberAt_20 : decode cX3_numberAt 20 = .ok (.iconst 0, 1) := by decide +kernel
theorem dX3_numberAt_21 : decode cX3_numberAt 21 = .ok (.ireturn, 1) := by decide +kernel
set_option maxRecDepth 20000 in
theorem ggX3_findError_X3_signAt : GoodIn wsX3_findError wsX3_signAt := goodIn_ca (goodIn_r _ [5, 6, 16, 17] (by decide +kernel) (by decide +kernel)) (goodIn_sub (fun _ h => List.mem_cons_of_mem _ (List.mem_append_right _ h)) (by decide +kernel))
set_option maxRecDepth 20000 in
theorem gX3_findError_X3_signAt : GoodIn wsX3_findError (wsV RX3 19 RX3 yX3_signAt wsX3_signAt) := goodIn_app (goodIn_of _ (by decide +kernel)) ggX3_findError_X3_signAt
set_option maxRecDepth 20000 in
theorem ggX3_findError_X3_dueBehind : GoodIn wsX3_findError wsX3_dueBehind := goodIn_r _ [9, 10, 11, 4, 12, 13, 14, 15] (by decide +kernel) (by decide +kernel)
set_option maxRecDepth 20000 in
theorem gX3_findError_X3_dueBehind : GoodIn wsX3_findError (va_wsS RX3 27 yX3_dueBehind wsX3_dueBehind) := goodIn_app (goodIn_of _ (by decide +kernel)) ggX3_findError_X3_dueBehind
theorem dX3_findError_0 : decode cX3_findError 0 = .ok (.iconst (-1), 1) := by decide +kernel
theorem dX3_findError_1 : decode cX3_findError 1 = .ok (.istore_n 2, 1) := by decide +kernel
theorem dX3_findError_2 : decode cX3_findError 2 = .ok (.iconst 0, 1) := by decide +kernel
theorem dX3_findError_3 : decode cX3_findError 3 = .ok (.istore_n 3, 1) := by decide +kernel
theorem dX3_findError_4 : decode cX3_findError 4 = .ok (.iload_n 3, 1) := by decide +kernel
theorem dX3_findError_5 : decode cX3_findError 5 = .ok (.iload_n 1, 1) := by decide +kernel
theorem dX3_findError_6 : decode cX3_findError 6 = .ok (.if_icmp .ge 27, 3) := by decide +kernel
theorem dX3_findError_9 : decode cX3_findError 9 = .ok (.iload_n 2, 1) := by decide +kernel
theorem dX3_findError_10 : decode cX3_findError 10 = .ok (.aload_n 0, 1) := by decide +kernel
theorem dX3_findError_11 : decode cX3_findError 11 = .ok (.iload_n 3, 1) := by decide +kernel
theorem dX3_findError_12 : decode cX3_findError 12 = .ok (.invokevirtual 19, 3) := by decide +kernel
theorem dX3_findError_15 : decode cX3_findError 15 = .ok (.invokestatic 27, 3) := by decide +kernel
theorem dX3_findError_18 : decode cX3_findError 18 = .ok (.istore_n 2, 1) := by decide +kernel
theorem dX3_findError_19 : decode cX3_findError 19 = .ok (.iload_n 2, 1) := by decide +kernel
theorem dX3_findError_20 : decode cX3_findError 20 = .ok (.bipush (-2), 2) := by decide +kernel
theorem dX3_findError_22 : decode cX3_findError 22 = .ok (.if_icmp .ne 5, 3) := by decide +kernel
theorem dX3_findError_25 : decode cX3_findError 25 = .ok (.iload_n 3, 1) := by decide +kernel
theorem dX3_findError_26 : decode cX3_findError 26 = .ok (.ireturn, 1) := by decide +kernel
theorem dX3_findError_27 : decode cX3_findError 27 = .ok (.iinc 3 1, 3) := by decide +kernel
theorem dX3_findError_30 : decode cX3_findError 30 = .ok (.goto (-26), 3) := by decide +kernel
theorem dX3_findError_33 : decode cX3_findError 33 = .ok (.iload_n 2, 1) := by decide +kernel
theorem dX3_findError_34 : decode cX3_findError 34 = .ok (.ifCond .ne 7, 3) := by decide +kernel
theorem dX3_findError_37 : decode cX3_findError 37 = .ok (.iconst (-1), 1) := by decide +kernel
theorem dX3_findError_38 : decode cX3_findError 38 = .ok (.goto 4, 3) := by decide +kernel
theorem dX3_findError_41 : decode cX3_findError 41 = .ok (.iload_n 1, 1) := by decide +kernel
theorem dX3_findError_42 : decode cX3_findError 42 = .ok (.ireturn, 1) := by decide +kernel
set_option maxRecDepth 20000 in
theorem ggX3_countOrders_X3_signAt : GoodIn wsX3_countOrders wsX3_signAt := goodIn_ca (goodIn_r _ [5, 6, 10, 11] (by decide +kernel) (by decide +kernel)) (goodIn_sub (fun _ h => List.mem_cons_of_mem _ (List.mem_append_right _ h)) (by decide +kernel))
set_option maxRecDepth 20000 in
theorem gX3_countOrders_X3_signAt : GoodIn wsX3_countOrders (wsV RX3 19 RX3 yX3_signAt wsX3_signAt) := goodIn_app (goodIn_of _ (by decide +kernel)) ggX3_countOrders_X3_signAt
set_option maxRecDepth 20000 in
theorem ggX3_countOrders_X3_numbersOf : GoodIn wsX3_countOrders wsX3_numbersOf := goodIn_r _ [9] (by decide +kernel) (by decide +kernel)
set_option maxRecDepth 20000 in
theorem gX3_countOrders_X3_numbersOf : GoodIn wsX3_countOrders (va_wsS RX3 31 yX3_numbersOf wsX3_numbersOf) := goodIn_app (goodIn_of _ (by decide +kernel)) ggX3_countOrders_X3_numbersOf
theorem dX3_countOrders_0 : decode cX3_countOrders 0 = .ok (.iconst 0, 1) := by decide +kernel
theorem dX3_countOrders_1 : decode cX3_countOrders 1 = .ok (.istore_n 2, 1) := by decide +kernel
theorem dX3_countOrders_2 : decode cX3_countOrders 2 = .ok (.iconst 0, 1) := by decide +kernel
theorem dX3_countOrders_3 : decode cX3_countOrders 3 = .ok (.istore_n 3, 1) := by decide +kernel
theorem dX3_countOrders_4 : decode cX3_countOrders 4 = .ok (.iload_n 3, 1) := by decide +kernel
theorem dX3_countOrders_5 : decode cX3_countOrders 5 = .ok (.iload_n 1, 1) := by decide +kernel
theorem dX3_countOrders_6 : decode cX3_countOrders 6 = .ok (.if_icmp .ge 30, 3) := by decide +kernel
theorem dX3_countOrders_9 : decode cX3_countOrders 9 = .ok (.iload_n 2, 1) := by decide +kernel
theorem dX3_countOrders_10 : decode cX3_countOrders 10 = .ok (.aload_n 0, 1) := by decide +kernel
theorem dX3_countOrders_11 : decode cX3_countOrders 11 = .ok (.iload_n 3, 1) := by decide +kernel
theorem dX3_countOrders_12 : decode cX3_countOrders 12 = .ok (.invokevirtual 19, 3) := by decide +kernel
theorem dX3_countOrders_15 : decode cX3_countOrders 15 = .ok (.invokestatic 31, 3) := by decide +kernel
theorem dX3_countOrders_18 : decode cX3_countOrders 18 = .ok (.bipush (-2), 2) := by decide +kernel
theorem dX3_countOrders_20 : decode cX3_countOrders 20 = .ok (.if_icmp .ne 7, 3) := by decide +kernel
theorem dX3_countOrders_23 : decode cX3_countOrders 23 = .ok (.iconst 0, 1) := by decide +kernel
theorem dX3_countOrders_24 : decode cX3_countOrders 24 = .ok (.goto 4, 3) := by decide +kernel
theorem dX3_countOrders_27 : decode cX3_countOrders 27 = .ok (.iconst 1, 1) := by decide +kernel
theorem dX3_countOrders_28 : decode cX3_countOrders 28 = .ok (.iadd, 1) := by decide +kernel
theorem dX3_countOrders_29 : decode cX3_countOrders 29 = .ok (.istore_n 2, 1) := by decide +kernel
theorem dX3_countOrders_30 : decode cX3_countOrders 30 = .ok (.iinc 3 1, 3) := by decide +kernel
theorem dX3_countOrders_33 : decode cX3_countOrders 33 = .ok (.goto (-29), 3) := by decide +kernel
theorem dX3_countOrders_36 : decode cX3_countOrders 36 = .ok (.iload_n 2, 1) := by decide +kernel
theorem dX3_countOrders_37 : decode cX3_countOrders 37 = .ok (.ireturn, 1) := by decide +kernel
set_option maxRecDepth 20000 in
theorem ggX3_dueBehind_X3_numbersOf : GoodIn wsX3_dueBehind wsX3_numbersOf := goodIn_r _ [4] (by decide +kernel) (by decide +kernel)
set_option maxRecDepth 20000 in
theorem gX3_dueBehind_X3_numbersOf : GoodIn wsX3_dueBehind (va_wsS RX3 31 yX3_numbersOf wsX3_numbersOf) := goodIn_app (goodIn_of _ (by decide +kernel)) ggX3_dueBehind_X3_numbersOf
set_option maxRecDepth 20000 in
theorem ggX3_dueBehind_X3_isDigit : GoodIn wsX3_dueBehind wsX3_isDigit := goodIn_r _ [7] (by decide +kernel) (by decide +kernel)
set_option maxRecDepth 20000 in
theorem gX3_dueBehind_X3_isDigit : GoodIn wsX3_dueBehind (va_wsS RX3 23 yX3_isDigit wsX3_isDigit) := goodIn_app (goodIn_of _ (by decide +kernel)) ggX3_dueBehind_X3_isDigit
theorem dX3_dueBehind_0 : decode cX3_dueBehind 0 = .ok (.iload_n 0, 1) := by decide +kernel
theorem dX3_dueBehind_1 : decode cX3_dueBehind 1 = .ok (.iconst (-1), 1) := by decide +kernel
theorem dX3_dueBehind_2 : decode cX3_dueBehind 2 = .ok (.if_icmp .ne 8, 3) := by decide +kernel
theorem dX3_dueBehind_5 : decode cX3_dueBehind 5 = .ok (.iload_n 1, 1) := by decide +kernel
theorem dX3_dueBehind_6 : decode cX3_dueBehind 6 = .ok (.invokestatic 31, 3) := by decide +kernel
theorem dX3_dueBehind_9 : decode cX3_dueBehind 9 = .ok (.ireturn, 1) := by decide +kernel
theorem dX3_dueBehind_10 : decode cX3_dueBehind 10 = .ok (.iload_n 0, 1) := by decide +kernel
theorem dX3_dueBehind_11 : decode cX3_dueBehind 11 = .ok (.ifCond .ne 16, 3) := by decide +kernel
theorem dX3_dueBehind_14 : decode cX3_dueBehind 14 = .ok (.iload_n 1, 1) := by decide +kernel
theorem dX3_dueBehind_15 : decode cX3_dueBehind 15 = .ok (.bipush 59, 2) := by decide +kernel
theorem dX3_dueBehind_17 : decode cX3_dueBehind 17 = .ok (.if_icmp .ne 7, 3) := by decide +kernel
theorem dX3_dueBehind_20 : decode cX3_dueBehind 20 = .ok (.iconst (-1), 1) := by decide +kernel
theorem dX3_dueBehind_21 : decode cX3_dueBehind 21 = .ok (.goto 5, 3) := by decide +kernel
theorem dX3_dueBehind_24 : decode cX3_dueBehind 24 = .ok (.bipush (-2), 2) := by decide +kernel
theorem dX3_dueBehind_26 : decode cX3_dueBehind 26 = .ok (.ireturn, 1) := by decide +kernel
theorem dX3_dueBehind_27 : decode cX3_dueBehind 27 = .ok (.iload_n 1, 1) := by decide +kernel
theorem dX3_dueBehind_28 : decode cX3_dueBehind 28 = .ok (.invokestatic 23, 3) := by decide +kernel
theorem dX3_dueBehind_31 : decode cX3_dueBehind 31 = .ok (.ifCond .eq 9, 3) := by decide +kernel
theorem dX3_dueBehind_34 : decode cX3_dueBehind 34 = .ok (.iload_n 0, 1) := by decide +kernel
theorem dX3_dueBehind_35 : decode cX3_dueBehind 35 = .ok (.iconst 1, 1) := by decide +kernel
theorem dX3_dueBehind_36 : decode cX3_dueBehind 36 = .ok (.isub, 1) := by decide +kernel
theorem dX3_dueBehind_37 : decode cX3_dueBehind 37 = .ok (.goto 5, 3) := by decide +kernel
theorem dX3_dueBehind_40 : decode cX3_dueBehind 40 = .ok (.bipush (-2), 2) := by decide +kernel
theorem dX3_dueBehind_42 : decode cX3_dueBehind 42 = .ok (.ireturn, 1) := by decide +kernel
theorem dX3_isDigit_0 : decode cX3_isDigit 0 = .ok (.iload_n 0, 1) := by decide +kernel
theorem dX3_isDigit_1 : decode cX3_isDigit 1 = .ok (.bipush 48, 2) := by decide +kernel
theorem dX3_isDigit_3 : decode cX3_isDigit 3 = .ok (.if_icmp .lt 13, 3) := by decide +kernel
theorem dX3_isDigit_6 : decode cX3_isDigit 6 = .ok (.iload_n 0, 1) := by decide +kernel
theorem dX3_isDigit_7 : decode cX3_isDigit 7 = .ok (.bipush 57, 2) := by decide +kernel
theorem dX3_isDigit_9 : decode cX3_isDigit 9 = .ok (.if_icmp .gt 7, 3) := by decide +kernel
theorem dX3_isDigit_12 : decode cX3_isDigit 12 = .ok (.iconst 1, 1) := by decide +kernel
theorem dX3_isDigit_13 : decode cX3_isDigit 13 = .ok (.goto 4, 3) := by decide +kernel
theorem dX3_isDigit_16 : decode cX3_isDigit 16 = .ok (.iconst 0, 1) := by decide +kernel
theorem dX3_isDigit_17 : decode cX3_isDigit 17 = .ok (.ireturn, 1) := by decide +kernel
theorem dX3_numbersOf_0 : decode cX3_numbersOf 0 = .ok (.iload_n 0, 1) := by decide +kernel
theorem dX3_numbersOf_1 : decode cX3_numbersOf 1 = .ok (.tableswitch 109 98 119 #[105, 109, 109, 109, 109, 109, 107, 105, 109, 109, 109, 103, 109, 105, 109, 109, 105, 105, 103, 109, 109, 107], 103) := by decide +kernel
theorem dX3_numbersOf_104 : decode cX3_numbersOf 104 = .ok (.iconst 3, 1) := by decide +kernel
theorem dX3_numbersOf_105 : decode cX3_numbersOf 105 = .ok (.ireturn, 1) := by decide +kernel
theorem dX3_numbersOf_106 : decode cX3_numbersOf 106 = .ok (.iconst 1, 1) := by decide +kernel
theorem dX3_numbersOf_107 : decode cX3_numbersOf 107 = .ok (.ireturn, 1) := by decide +kernel
theorem dX3_numbersOf_108 : decode cX3_numbersOf 108 = .ok (.iconst 0, 1) := by decide +kernel
theorem dX3_numbersOf_109 : decode cX3_numbersOf 109 = .ok (.ireturn, 1) := by decide +kernel
theorem dX3_numbersOf_110 : decode cX3_numbersOf 110 = .ok (.bipush (-2), 2) := by decide +kernel
theorem dX3_numbersOf_112 : decode cX3_numbersOf 112 = .ok (.ireturn, 1) := by decide +kernel
theorem dX4_init_0 : decode cX4_init 0 = .ok (.aload_n 0, 1) := by decide +kernel
theorem dX4_init_1 : decode cX4_init 1 = .ok (.invokespecial 3, 3) := by decide +kernel
theorem dX4_init_4 : decode cX4_init 4 = .ok (.aload_n 0, 1) := by decide +kernel
theorem dX4_init_5 : decode cX4_init 5 = .ok (.bipush 39, 2) := by decide +kernel
theorem dX4_init_7 : decode cX4_init 7 = .ok (.newarray .char, 2) := by decide +kernel
theorem dX4_init_9 : decode cX4_init 9 = .ok (.putfield 9, 3) := by decide +kernel
theorem dX4_init_12 : decode cX4_init 12 = .ok (.aload_n 0, 1) := by decide +kernel
theorem dX4_init_13 : decode cX4_init 13 = .ok (.iconst 0, 1) := by decide +kernel
theorem dX4_init_14 : decode cX4_init 14 = .ok (.putfield 15, 3) := by decide +kernel
theorem dX4_init_17 : decode cX4_init 17 = .ok (.return_, 1) := by decide +kernel
set_option maxRecDepth 20000 in
theorem ggX4_writeBelt_X4_writeNumber : GoodIn wsX4_writeBelt wsX4_writeNumber := goodIn_ca (goodIn_r _ [10, 11, 12, 13, 9, 14, 1, 15, 43, 44] (by decide +kernel) (by decide +kernel)) (goodIn_sub (fun _ h => List.mem_cons_of_mem _ (List.mem_append_right _ h)) (by decide +kernel))
set_option maxRecDepth 20000 in
theorem gX4_writeBelt_X4_writeNumber : GoodIn wsX4_writeBelt (wsV RX4 24 RX4 yX4_writeNumber wsX4_writeNumber) := goodIn_app (goodIn_of _ (by decide +kernel)) ggX4_writeBelt_X4_writeNumber
set_option maxRecDepth 20000 in
theorem ggX4_writeBelt_X4_write : GoodIn wsX4_writeBelt wsX4_write := goodIn_ca (goodIn_r _ [14, 1, 15, 43, 44] (by decide +kernel) (by decide +kernel)) (goodIn_sub (fun _ h => List.mem_cons_of_mem _ (List.mem_append_right _ h)) (by decide +kernel))
set_option maxRecDepth 20000 in
theorem gX4_writeBelt_X4_write : GoodIn wsX4_writeBelt (wsV RX4 28 RX4 yX4_write wsX4_write) := goodIn_app (goodIn_of _ (by decide +kernel)) ggX4_writeBelt_X4_write
set_option maxRecDepth 20000 in
theorem ggX4_writeBelt_X4_writeGap : GoodIn wsX4_writeBelt wsX4_writeGap := goodIn_ca (goodIn_r _ [19, 11, 12, 13, 9, 14, 1, 15, 43, 44] (by decide +kernel) (by decide +kernel)) (goodIn_sub (fun _ h => List.mem_cons_of_mem _ (List.mem_append_right _ h)) (by decide +kernel))
set_option maxRecDepth 20000 in
theorem gX4_writeBelt_X4_writeGap : GoodIn wsX4_writeBelt (wsV RX4 44 RX4 yX4_writeGap wsX4_writeGap) := goodIn_app (goodIn_of _ (by decide +kernel)) ggX4_writeBelt_X4_writeGap
set_option maxRecDepth 20000 in
theorem ggX4_writeBelt_X4_writeCarrier : GoodIn wsX4_writeBelt wsX4_writeCarrier := goodIn_ca (goodIn_r _ [23, 24, 25, 26, 27, 28, 29, 30, 31, 32, 33, 34, 11, 12, 13, 9, 14, 1, 15, 35, 36, 37, 38, 6, 7, 8, 10, 39, 40, 41, 42, 51, 52, 43, 44] (by decide +kernel) (by decide +kernel)) (goodIn_sub (fun _ h => List.mem_cons_of_mem _ (List.mem_append_right _ h)) (by decide +kernel))
set_option maxRecDepth 20000 in
theorem gX4_writeBelt_X4_writeCarrier : GoodIn wsX4_writeBelt (wsV RX4 47 RX4 yX4_writeCarrier wsX4_writeCarrier) := goodIn_app (goodIn_of _ (by decide +kernel)) ggX4_writeBelt_X4_writeCarrier
theorem dX4_writeBelt_0 : decode cX4_writeBelt 0 = .ok (.aload_n 0, 1) := by decide +kernel
theorem dX4_writeBelt_1 : decode cX4_writeBelt 1 = .ok (.iconst 0, 1) := by decide +kernel
theorem dX4_writeBelt_2 : decode cX4_writeBelt 2 = .ok (.putfield 15, 3) := by decide +kernel
theorem dX4_writeBelt_5 : decode cX4_writeBelt 5 = .ok (.aload_n 0, 1) := by decide +kernel
theorem dX4_writeBelt_6 : decode cX4_writeBelt 6 = .ok (.aload_n 1, 1) := by decide +kernel
theorem dX4_writeBelt_7 : decode cX4_writeBelt 7 = .ok (.getfield 19, 3) := by decide +kernel
theorem dX4_writeBelt_10 : decode cX4_writeBelt 10 = .ok (.invokevirtual 24, 3) := by decide +kernel
theorem dX4_writeBelt_13 : decode cX4_writeBelt 13 = .ok (.aload_n 0, 1) := by decide +kernel
theorem dX4_writeBelt_14 : decode cX4_writeBelt 14 = .ok (.bipush 47, 2) := by decide +kernel
theorem dX4_writeBelt_16 : decode cX4_writeBelt 16 = .ok (.invokevirtual 28, 3) := by decide +kernel
theorem dX4_writeBelt_19 : decode cX4_writeBelt 19 = .ok (.aload_n 0, 1) := by decide +kernel
theorem dX4_writeBelt_20 : decode cX4_writeBelt 20 = .ok (.aload_n 1, 1) := by decide +kernel
theorem dX4_writeBelt_21 : decode cX4_writeBelt 21 = .ok (.getfield 32, 3) := by decide +kernel
theorem dX4_writeBelt_24 : decode cX4_writeBelt 24 = .ok (.invokevirtual 24, 3) := by decide +kernel
theorem dX4_writeBelt_27 : decode cX4_writeBelt 27 = .ok (.aload_n 0, 1) := by decide +kernel
theorem dX4_writeBelt_28 : decode cX4_writeBelt 28 = .ok (.bipush 58, 2) := by decide +kernel
theorem dX4_writeBelt_30 : decode cX4_writeBelt 30 = .ok (.invokevirtual 28, 3) := by decide +kernel
theorem dX4_writeBelt_33 : decode cX4_writeBelt 33 = .ok (.iconst 0, 1) := by decide +kernel
theorem dX4_writeBelt_34 : decode cX4_writeBelt 34 = .ok (.istore_n 2, 1) := by decide +kernel
theorem dX4_writeBelt_35 : decode cX4_writeBelt 35 = .ok (.iload_n 2, 1) := by decide +kernel
theorem dX4_writeBelt_36 : decode cX4_writeBelt 36 = .ok (.aload_n 1, 1) := by decide +kernel
theorem dX4_writeBelt_37 : decode cX4_writeBelt 37 = .ok (.getfield 35, 3) := by decide +kernel
theorem dX4_writeBelt_40 : decode cX4_writeBelt 40 = .ok (.getfield 39, 3) := by decide +kernel
theorem dX4_writeBelt_43 : decode cX4_writeBelt 43 = .ok (.if_icmp .ge 23, 3) := by decide +kernel
theorem dX4_writeBelt_46 : decode cX4_writeBelt 46 = .ok (.aload_n 0, 1) := by decide +kernel
theorem dX4_writeBelt_47 : decode cX4_writeBelt 47 = .ok (.iload_n 2, 1) := by decide +kernel
theorem dX4_writeBelt_48 : decode cX4_writeBelt 48 = .ok (.invokevirtual 44, 3) := by decide +kernel
theorem dX4_writeBelt_51 : decode cX4_writeBelt 51 = .ok (.aload_n 0, 1) := by decide +kernel
theorem dX4_writeBelt_52 : decode cX4_writeBelt 52 = .ok (.aload_n 1, 1) := by decide +kernel
theorem dX4_writeBelt_53 : decode cX4_writeBelt 53 = .ok (.getfield 35, 3) := by decide +kernel
theorem dX4_writeBelt_56 : decode cX4_writeBelt 56 = .ok (.iload_n 2, 1) := by decide +kernel
theorem dX4_writeBelt_57 : decode cX4_writeBelt 57 = .ok (.invokevirtual 47, 3) := by decide +kernel
theorem dX4_writeBelt_60 : decode cX4_writeBelt 60 = .ok (.iinc 2 1, 3) := by decide +kernel
theorem dX4_writeBelt_63 : decode cX4_writeBelt 63 = .ok (.goto (-28), 3) := by decide +kernel
theorem dX4_writeBelt_66 : decode cX4_writeBelt 66 = .ok (.return_, 1) := by decide +kernel
set_option maxRecDepth 20000 in
theorem ggX4_writeShelf_X4_writeGap : GoodIn wsX4_writeShelf wsX4_writeGap := goodIn_ca (goodIn_r _ [7, 8, 9, 10, 6, 11, 1, 12, 41, 42] (by decide +kernel) (by decide +kernel)) (goodIn_sub (fun _ h => List.mem_cons_of_mem _ (List.mem_append_right _ h)) (by decide +kernel))
set_option maxRecDepth 20000 in
theorem gX4_writeShelf_X4_writeGap : GoodIn wsX4_writeShelf (wsV RX4 44 RX4 yX4_writeGap wsX4_writeGap) := goodIn_app (goodIn_of _ (by decide +kernel)) ggX4_writeShelf_X4_writeGap
set_option maxRecDepth 20000 in
theorem ggX4_writeShelf_X4_writeCarrier : GoodIn wsX4_writeShelf wsX4_writeCarrier := goodIn_ca (goodIn_r _ [16, 17, 18, 19, 20, 21, 22, 23, 24, 25, 26, 27, 8, 9, 10, 6, 11, 1, 12, 28, 29, 30, 31, 32, 33, 34, 35, 36, 37, 38, 39, 43, 44, 41, 42] (by decide +kernel) (by decide +kernel)) (goodIn_sub (fun _ h => List.mem_cons_of_mem _ (List.mem_append_right _ h)) (by decide +kernel))
set_option maxRecDepth 20000 in
theorem gX4_writeShelf_X4_writeCarrier : GoodIn wsX4_writeShelf (wsV RX4 47 RX4 yX4_writeCarrier wsX4_writeCarrier) := goodIn_app (goodIn_of _ (by decide +kernel)) ggX4_writeShelf_X4_writeCarrier
set_option maxRecDepth 20000 in
theorem ggX4_writeShelf_X4_write : GoodIn wsX4_writeShelf wsX4_write := goodIn_ca (goodIn_r _ [11, 1, 12, 41, 42] (by decide +kernel) (by decide +kernel)) (goodIn_sub (fun _ h => List.mem_cons_of_mem _ (List.mem_append_right _ h)) (by decide +kernel))
set_option maxRecDepth 20000 in
theorem gX4_writeShelf_X4_write : GoodIn wsX4_writeShelf (wsV RX4 28 RX4 yX4_write wsX4_write) := goodIn_app (goodIn_of _ (by decide +kernel)) ggX4_writeShelf_X4_write
set_option maxRecDepth 20000 in
theorem ggX4_writeShelf_X6_number : GoodIn wsX4_writeShelf wsX6_number := goodIn_ca (goodIn_r _ [25, 26, 27, 43, 44] (by decide +kernel) (by decide +kernel)) (goodIn_sub (fun _ h => List.mem_cons_of_mem _ (List.mem_append_right _ h)) (by decide +kernel))
set_option maxRecDepth 20000 in
theorem gX4_writeShelf_X6_number : GoodIn wsX4_writeShelf (wsV RX4 51 RX6 yX6_number wsX6_number) := goodIn_app (goodIn_of _ (by decide +kernel)) ggX4_writeShelf_X6_number
set_option maxRecDepth 20000 in
theorem ggX4_writeShelf_X4_writeNumber : GoodIn wsX4_writeShelf wsX4_writeNumber := goodIn_ca (goodIn_r _ [35, 8, 9, 10, 6, 11, 1, 12, 41, 42] (by decide +kernel) (by decide +kernel)) (goodIn_sub (fun _ h => List.mem_cons_of_mem _ (List.mem_append_right _ h)) (by decide +kernel))
set_option maxRecDepth 20000 in
theorem gX4_writeShelf_X4_writeNumber : GoodIn wsX4_writeShelf (wsV RX4 24 RX4 yX4_writeNumber wsX4_writeNumber) := goodIn_app (goodIn_of _ (by decide +kernel)) ggX4_writeShelf_X4_writeNumber
theorem dX4_writeShelf_0 : decode cX4_writeShelf 0 = .ok (.aload_n 0, 1) := by decide +kernel
theorem dX4_writeShelf_1 : decode cX4_writeShelf 1 = .ok (.iconst 0, 1) := by decide +kernel
theorem dX4_writeShelf_2 : decode cX4_writeShelf 2 = .ok (.putfield 15, 3) := by decide +kernel
theorem dX4_writeShelf_5 : decode cX4_writeShelf 5 = .ok (.iconst 0, 1) := by decide +kernel
theorem dX4_writeShelf_6 : decode cX4_writeShelf 6 = .ok (.istore_n 2, 1) := by decide +kernel
theorem dX4_writeShelf_7 : decode cX4_writeShelf 7 = .ok (.iload_n 2, 1) := by decide +kernel
theorem dX4_writeShelf_8 : decode cX4_writeShelf 8 = .ok (.aload_n 1, 1) := by decide +kernel
theorem dX4_writeShelf_9 : decode cX4_writeShelf 9 = .ok (.getfield 39, 3) := by decide +kernel
theorem dX4_writeShelf_12 : decode cX4_writeShelf 12 = .ok (.if_icmp .ge 36, 3) := by decide +kernel
theorem dX4_writeShelf_15 : decode cX4_writeShelf 15 = .ok (.aload_n 0, 1) := by decide +kernel
theorem dX4_writeShelf_16 : decode cX4_writeShelf 16 = .ok (.iload_n 2, 1) := by decide +kernel
theorem dX4_writeShelf_17 : decode cX4_writeShelf 17 = .ok (.invokevirtual 44, 3) := by decide +kernel
theorem dX4_writeShelf_20 : decode cX4_writeShelf 20 = .ok (.aload_n 0, 1) := by decide +kernel
theorem dX4_writeShelf_21 : decode cX4_writeShelf 21 = .ok (.aload_n 1, 1) := by decide +kernel
theorem dX4_writeShelf_22 : decode cX4_writeShelf 22 = .ok (.iload_n 2, 1) := by decide +kernel
theorem dX4_writeShelf_23 : decode cX4_writeShelf 23 = .ok (.invokevirtual 47, 3) := by decide +kernel
theorem dX4_writeShelf_26 : decode cX4_writeShelf 26 = .ok (.aload_n 0, 1) := by decide +kernel
theorem dX4_writeShelf_27 : decode cX4_writeShelf 27 = .ok (.bipush 33, 2) := by decide +kernel
theorem dX4_writeShelf_29 : decode cX4_writeShelf 29 = .ok (.invokevirtual 28, 3) := by decide +kernel
theorem dX4_writeShelf_32 : decode cX4_writeShelf 32 = .ok (.aload_n 0, 1) := by decide +kernel
theorem dX4_writeShelf_33 : decode cX4_writeShelf 33 = .ok (.aload_n 1, 1) := by decide +kernel
theorem dX4_writeShelf_34 : decode cX4_writeShelf 34 = .ok (.iload_n 2, 1) := by decide +kernel
theorem dX4_writeShelf_35 : decode cX4_writeShelf 35 = .ok (.iconst 3, 1) := by decide +kernel
theorem dX4_writeShelf_36 : decode cX4_writeShelf 36 = .ok (.invokevirtual 51, 3) := by decide +kernel
theorem dX4_writeShelf_39 : decode cX4_writeShelf 39 = .ok (.invokevirtual 24, 3) := by decide +kernel
theorem dX4_writeShelf_42 : decode cX4_writeShelf 42 = .ok (.iinc 2 1, 3) := by decide +kernel
theorem dX4_writeShelf_45 : decode cX4_writeShelf 45 = .ok (.goto (-38), 3) := by decide +kernel
theorem dX4_writeShelf_48 : decode cX4_writeShelf 48 = .ok (.return_, 1) := by decide +kernel
set_option maxRecDepth 20000 in
theorem ggX4_writeGap_X4_write : GoodIn wsX4_writeGap wsX4_write := goodIn_ca (goodIn_r _ [5, 6, 7, 8, 9] (by decide +kernel) (by decide +kernel)) (goodIn_sub (fun _ h => List.mem_cons_of_mem _ (List.mem_append_right _ h)) (by decide +kernel))
set_option maxRecDepth 20000 in
theorem gX4_writeGap_X4_write : GoodIn wsX4_writeGap (wsV RX4 28 RX4 yX4_write wsX4_write) := goodIn_app (goodIn_of _ (by decide +kernel)) ggX4_writeGap_X4_write
theorem dX4_writeGap_0 : decode cX4_writeGap 0 = .ok (.iload_n 1, 1) := by decide +kernel
theorem dX4_writeGap_1 : decode cX4_writeGap 1 = .ok (.ifCond .le 9, 3) := by decide +kernel
theorem dX4_writeGap_4 : decode cX4_writeGap 4 = .ok (.aload_n 0, 1) := by decide +kernel
theorem dX4_writeGap_5 : decode cX4_writeGap 5 = .ok (.bipush 32, 2) := by decide +kernel
theorem dX4_writeGap_7 : decode cX4_writeGap 7 = .ok (.invokevirtual 28, 3) := by decide +kernel
theorem dX4_writeGap_10 : decode cX4_writeGap 10 = .ok (.return_, 1) := by decide +kernel
set_option maxRecDepth 20000 in
theorem ggX4_writeCarrier_X6_isBlank : GoodIn wsX4_writeCarrier wsX6_isBlank := goodIn_ca (goodIn_r _ [5, 6, 7, 8, 4, 9, 10, 11, 31, 32] (by decide +kernel) (by decide +kernel)) (goodIn_sub (fun _ h => List.mem_cons_of_mem _ (List.mem_append_right _ h)) (by decide +kernel))
set_option maxRecDepth 20000 in
theorem gX4_writeCarrier_X6_isBlank : GoodIn wsX4_writeCarrier (wsV RX4 55 RX6 yX6_isBlank wsX6_isBlank) := goodIn_app (goodIn_of _ (by decide +kernel)) ggX4_writeCarrier_X6_isBlank
set_option maxRecDepth 20000 in
theorem ggX4_writeCarrier_X4_write : GoodIn wsX4_writeCarrier wsX4_write := goodIn_ca (goodIn_r _ [16, 17, 18, 33, 34] (by decide +kernel) (by decide +kernel)) (goodIn_sub (fun _ h => List.mem_cons_of_mem _ (List.mem_append_right _ h)) (by decide +kernel))
set_option maxRecDepth 20000 in
theorem gX4_writeCarrier_X4_write : GoodIn wsX4_writeCarrier (wsV RX4 28 RX4 yX4_write wsX4_write) := goodIn_app (goodIn_of _ (by decide +kernel)) ggX4_writeCarrier_X4_write
set_option maxRecDepth 20000 in
theorem ggX4_writeCarrier_X6_grey : GoodIn wsX4_writeCarrier wsX6_grey := goodIn_ca (goodIn_r _ [22, 6, 7, 8, 4, 9, 10, 11, 31, 32] (by decide +kernel) (by decide +kernel)) (goodIn_sub (fun _ h => List.mem_cons_of_mem _ (List.mem_append_right _ h)) (by decide +kernel))
set_option maxRecDepth 20000 in
theorem gX4_writeCarrier_X6_grey : GoodIn wsX4_writeCarrier (wsV RX4 59 RX6 yX6_grey wsX6_grey) := goodIn_app (goodIn_of _ (by decide +kernel)) ggX4_writeCarrier_X6_grey
set_option maxRecDepth 20000 in
theorem ggX4_writeCarrier_X4_writeNumber : GoodIn wsX4_writeCarrier wsX4_writeNumber := goodIn_ca (goodIn_r _ [26, 12, 13, 14, 15, 16, 17, 18, 33, 34] (by decide +kernel) (by decide +kernel)) (goodIn_sub (fun _ h => List.mem_cons_of_mem _ (List.mem_append_right _ h)) (by decide +kernel))
set_option maxRecDepth 20000 in
theorem gX4_writeCarrier_X4_writeNumber : GoodIn wsX4_writeCarrier (wsV RX4 24 RX4 yX4_writeNumber wsX4_writeNumber) := goodIn_app (goodIn_of _ (by decide +kernel)) ggX4_writeCarrier_X4_writeNumber
set_option maxRecDepth 20000 in
theorem ggX4_writeCarrier_X6_alarm : GoodIn wsX4_writeCarrier wsX6_alarm := goodIn_ca (goodIn_r _ [30, 6, 7, 8, 4, 9, 10, 11, 31, 32] (by decide +kernel) (by decide +kernel)) (goodIn_sub (fun _ h => List.mem_cons_of_mem _ (List.mem_append_right _ h)) (by decide +kernel))
set_option maxRecDepth 20000 in
theorem gX4_writeCarrier_X6_alarm : GoodIn wsX4_writeCarrier (wsV RX4 63 RX6 yX6_alarm wsX6_alarm) := goodIn_app (goodIn_of _ (by decide +kernel)) ggX4_writeCarrier_X6_alarm
theorem dX4_writeCarrier_0 : decode cX4_writeCarrier 0 = .ok (.aload_n 1, 1) := by decide +kernel
theorem dX4_writeCarrier_1 : decode cX4_writeCarrier 1 = .ok (.iload_n 2, 1) := by decide +kernel
theorem dX4_writeCarrier_2 : decode cX4_writeCarrier 2 = .ok (.invokevirtual 55, 3) := by decide +kernel
theorem dX4_writeCarrier_5 : decode cX4_writeCarrier 5 = .ok (.ifCond .eq 18, 3) := by decide +kernel
theorem dX4_writeCarrier_8 : decode cX4_writeCarrier 8 = .ok (.aload_n 0, 1) := by decide +kernel
theorem dX4_writeCarrier_9 : decode cX4_writeCarrier 9 = .ok (.bipush 45, 2) := by decide +kernel
theorem dX4_writeCarrier_11 : decode cX4_writeCarrier 11 = .ok (.invokevirtual 28, 3) := by decide +kernel
theorem dX4_writeCarrier_14 : decode cX4_writeCarrier 14 = .ok (.aload_n 0, 1) := by decide +kernel
theorem dX4_writeCarrier_15 : decode cX4_writeCarrier 15 = .ok (.bipush 45, 2) := by decide +kernel
theorem dX4_writeCarrier_17 : decode cX4_writeCarrier 17 = .ok (.invokevirtual 28, 3) := by decide +kernel
theorem dX4_writeCarrier_20 : decode cX4_writeCarrier 20 = .ok (.goto 21, 3) := by decide +kernel
theorem dX4_writeCarrier_23 : decode cX4_writeCarrier 23 = .ok (.aload_n 0, 1) := by decide +kernel
theorem dX4_writeCarrier_24 : decode cX4_writeCarrier 24 = .ok (.aload_n 1, 1) := by decide +kernel
theorem dX4_writeCarrier_25 : decode cX4_writeCarrier 25 = .ok (.iload_n 2, 1) := by decide +kernel
theorem dX4_writeCarrier_26 : decode cX4_writeCarrier 26 = .ok (.invokevirtual 59, 3) := by decide +kernel
theorem dX4_writeCarrier_29 : decode cX4_writeCarrier 29 = .ok (.invokevirtual 24, 3) := by decide +kernel
theorem dX4_writeCarrier_32 : decode cX4_writeCarrier 32 = .ok (.aload_n 0, 1) := by decide +kernel
theorem dX4_writeCarrier_33 : decode cX4_writeCarrier 33 = .ok (.aload_n 1, 1) := by decide +kernel
theorem dX4_writeCarrier_34 : decode cX4_writeCarrier 34 = .ok (.iload_n 2, 1) := by decide +kernel
theorem dX4_writeCarrier_35 : decode cX4_writeCarrier 35 = .ok (.invokevirtual 63, 3) := by decide +kernel
theorem dX4_writeCarrier_38 : decode cX4_writeCarrier 38 = .ok (.invokevirtual 24, 3) := by decide +kernel
theorem dX4_writeCarrier_41 : decode cX4_writeCarrier 41 = .ok (.return_, 1) := by decide +kernel
set_option maxRecDepth 20000 in
theorem ggX4_writeNumber_X4_write : GoodIn wsX4_writeNumber wsX4_write := goodIn_ca (goodIn_r _ [5, 6, 7, 8, 9] (by decide +kernel) (by decide +kernel)) (goodIn_sub (fun _ h => List.mem_cons_of_mem _ (List.mem_append_right _ h)) (by decide +kernel))
set_option maxRecDepth 20000 in
theorem gX4_writeNumber_X4_write : GoodIn wsX4_writeNumber (wsV RX4 28 RX4 yX4_write wsX4_write) := goodIn_app (goodIn_of _ (by decide +kernel)) ggX4_writeNumber_X4_write
theorem dX4_writeNumber_0 : decode cX4_writeNumber 0 = .ok (.aload_n 0, 1) := by decide +kernel
theorem dX4_writeNumber_1 : decode cX4_writeNumber 1 = .ok (.bipush 48, 2) := by decide +kernel
theorem dX4_writeNumber_3 : decode cX4_writeNumber 3 = .ok (.iload_n 1, 1) := by decide +kernel
theorem dX4_writeNumber_4 : decode cX4_writeNumber 4 = .ok (.iadd, 1) := by decide +kernel
theorem dX4_writeNumber_5 : decode cX4_writeNumber 5 = .ok (.i2c, 1) := by decide +kernel
theorem dX4_writeNumber_6 : decode cX4_writeNumber 6 = .ok (.invokevirtual 28, 3) := by decide +kernel
theorem dX4_writeNumber_9 : decode cX4_writeNumber 9 = .ok (.return_, 1) := by decide +kernel
theorem dX4_write_0 : decode cX4_write 0 = .ok (.aload_n 0, 1) := by decide +kernel
theorem dX4_write_1 : decode cX4_write 1 = .ok (.getfield 15, 3) := by decide +kernel
theorem dX4_write_4 : decode cX4_write 4 = .ok (.aload_n 0, 1) := by decide +kernel
theorem dX4_write_5 : decode cX4_write 5 = .ok (.getfield 9, 3) := by decide +kernel
theorem dX4_write_8 : decode cX4_write 8 = .ok (.arraylength, 1) := by decide +kernel
theorem dX4_write_9 : decode cX4_write 9 = .ok (.if_icmp .ge 23, 3) := by decide +kernel
theorem dX4_write_12 : decode cX4_write 12 = .ok (.aload_n 0, 1) := by decide +kernel
theorem dX4_write_13 : decode cX4_write 13 = .ok (.getfield 9, 3) := by decide +kernel
theorem dX4_write_16 : decode cX4_write 16 = .ok (.aload_n 0, 1) := by decide +kernel
theorem dX4_write_17 : decode cX4_write 17 = .ok (.getfield 15, 3) := by decide +kernel
theorem dX4_write_20 : decode cX4_write 20 = .ok (.iload_n 1, 1) := by decide +kernel
theorem dX4_write_21 : decode cX4_write 21 = .ok (.castore, 1) := by decide +kernel
theorem dX4_write_22 : decode cX4_write 22 = .ok (.aload_n 0, 1) := by decide +kernel
theorem dX4_write_23 : decode cX4_write 23 = .ok (.dup, 1) := by decide +kernel
theorem dX4_write_24 : decode cX4_write 24 = .ok (.getfield 15, 3) := by decide +kernel
theorem dX4_write_27 : decode cX4_write 27 = .ok (.iconst 1, 1) := by decide +kernel
theorem dX4_write_28 : decode cX4_write 28 = .ok (.iadd, 1) := by decide +kernel
theorem dX4_write_29 : decode cX4_write 29 = .ok (.putfield 15, 3) := by decide +kernel
theorem dX4_write_32 : decode cX4_write 32 = .ok (.return_, 1) := by decide +kernel
set_option maxRecDepth 20000 in
theorem ggX5_init_X0_init : GoodIn wsX5_init wsX0_init := goodIn_r _ [25, 26, 2, 3, 27, 9, 10, 28, 29, 30, 31, 32, 33, 34, 35, 36, 37, 38, 39, 62, 63, 45, 46, 47, 48, 49, 50] (by decide +kernel) (by decide +kernel)
set_option maxRecDepth 20000 in
theorem gX5_init_X0_init_n11 : GoodIn wsX5_init (wsX0_init) := ggX5_init_X0_init
set_option maxRecDepth 20000 in
theorem ggX5_init_X6_init : GoodIn wsX5_init wsX6_init := goodIn_r _ [35, 36, 2, 3, 37, 38, 39, 62, 63] (by decide +kernel) (by decide +kernel)
set_option maxRecDepth 20000 in
theorem gX5_init_X6_init_n20 : GoodIn wsX5_init (wsX6_init) := ggX5_init_X6_init
set_option maxRecDepth 20000 in
theorem ggX5_init_X1_init : GoodIn wsX5_init wsX1_init := goodIn_r _ [41, 42, 2, 3, 37, 43, 44, 64, 65] (by decide +kernel) (by decide +kernel)
set_option maxRecDepth 20000 in
theorem gX5_init_X1_init_n27 : GoodIn wsX5_init (wsX1_init) := ggX5_init_X1_init
theorem dX5_init_0 : decode cX5_init 0 = .ok (.aload_n 0, 1) := by decide +kernel
theorem dX5_init_1 : decode cX5_init 1 = .ok (.invokespecial 3, 3) := by decide +kernel
theorem dX5_init_4 : decode cX5_init 4 = .ok (.aload_n 0, 1) := by decide +kernel
theorem dX5_init_5 : decode cX5_init 5 = .ok (.iconst 3, 1) := by decide +kernel
theorem dX5_init_6 : decode cX5_init 6 = .ok (.anewarray 9, 3) := by decide +kernel
theorem dX5_init_9 : decode cX5_init 9 = .ok (.dup, 1) := by decide +kernel
theorem dX5_init_10 : decode cX5_init 10 = .ok (.iconst 0, 1) := by decide +kernel
theorem dX5_init_11 : decode cX5_init 11 = .ok (.new 9, 3) := by decide +kernel
theorem dX5_init_14 : decode cX5_init 14 = .ok (.dup, 1) := by decide +kernel
theorem dX5_init_15 : decode cX5_init 15 = .ok (.invokespecial 11, 3) := by decide +kernel
theorem dX5_init_18 : decode cX5_init 18 = .ok (.aastore, 1) := by decide +kernel
theorem dX5_init_19 : decode cX5_init 19 = .ok (.dup, 1) := by decide +kernel
theorem dX5_init_20 : decode cX5_init 20 = .ok (.iconst 1, 1) := by decide +kernel
theorem dX5_init_21 : decode cX5_init 21 = .ok (.new 9, 3) := by decide +kernel
theorem dX5_init_24 : decode cX5_init 24 = .ok (.dup, 1) := by decide +kernel
theorem dX5_init_25 : decode cX5_init 25 = .ok (.invokespecial 11, 3) := by decide +kernel
theorem dX5_init_28 : decode cX5_init 28 = .ok (.aastore, 1) := by decide +kernel
theorem dX5_init_29 : decode cX5_init 29 = .ok (.dup, 1) := by decide +kernel
theorem dX5_init_30 : decode cX5_init 30 = .ok (.iconst 2, 1) := by decide +kernel
theorem dX5_init_31 : decode cX5_init 31 = .ok (.new 9, 3) := by decide +kernel
theorem dX5_init_34 : decode cX5_init 34 = .ok (.dup, 1) := by decide +kernel
theorem dX5_init_35 : decode cX5_init 35 = .ok (.invokespecial 11, 3) := by decide +kernel
theorem dX5_init_38 : decode cX5_init 38 = .ok (.aastore, 1) := by decide +kernel
theorem dX5_init_39 : decode cX5_init 39 = .ok (.putfield 12, 3) := by decide +kernel
theorem dX5_init_42 : decode cX5_init 42 = .ok (.aload_n 0, 1) := by decide +kernel
theorem dX5_init_43 : decode cX5_init 43 = .ok (.new 18, 3) := by decide +kernel
theorem dX5_init_46 : decode cX5_init 46 = .ok (.dup, 1) := by decide +kernel
theorem dX5_init_47 : decode cX5_init 47 = .ok (.invokespecial 20, 3) := by decide +kernel
theorem dX5_init_50 : decode cX5_init 50 = .ok (.putfield 21, 3) := by decide +kernel
theorem dX5_init_53 : decode cX5_init 53 = .ok (.aload_n 0, 1) := by decide +kernel
theorem dX5_init_54 : decode cX5_init 54 = .ok (.new 25, 3) := by decide +kernel
theorem dX5_init_57 : decode cX5_init 57 = .ok (.dup, 1) := by decide +kernel
theorem dX5_init_58 : decode cX5_init 58 = .ok (.invokespecial 27, 3) := by decide +kernel
theorem dX5_init_61 : decode cX5_init 61 = .ok (.putfield 28, 3) := by decide +kernel
theorem dX5_init_64 : decode cX5_init 64 = .ok (.aload_n 0, 1) := by decide +kernel
theorem dX5_init_65 : decode cX5_init 65 = .ok (.iconst 5, 1) := by decide +kernel
theorem dX5_init_66 : decode cX5_init 66 = .ok (.putfield 32, 3) := by decide +kernel
theorem dX5_init_69 : decode cX5_init 69 = .ok (.aload_n 0, 1) := by decide +kernel
theorem dX5_init_70 : decode cX5_init 70 = .ok (.iconst 0, 1) := by decide +kernel
theorem dX5_init_71 : decode cX5_init 71 = .ok (.putfield 36, 3) := by decide +kernel
theorem dX5_init_74 : decode cX5_init 74 = .ok (.aload_n 0, 1) := by decide +kernel
theorem dX5_init_75 : decode cX5_init 75 = .ok (.iconst 0, 1) := by decide +kernel
theorem dX5_init_76 : decode cX5_init 76 = .ok (.putfield 39, 3) := by decide +kernel
theorem dX5_init_79 : decode cX5_init 79 = .ok (.aload_n 0, 1) := by decide +kernel
theorem dX5_init_80 : decode cX5_init 80 = .ok (.iconst 0, 1) := by decide +kernel
theorem dX5_init_81 : decode cX5_init 81 = .ok (.putfield 42, 3) := by decide +kernel
theorem dX5_init_84 : decode cX5_init 84 = .ok (.aload_n 0, 1) := by decide +kernel
theorem dX5_init_85 : decode cX5_init 85 = .ok (.iconst 0, 1) := by decide +kernel
theorem dX5_init_86 : decode cX5_init 86 = .ok (.putfield 45, 3) := by decide +kernel
theorem dX5_init_89 : decode cX5_init 89 = .ok (.aload_n 0, 1) := by decide +kernel
theorem dX5_init_90 : decode cX5_init 90 = .ok (.iconst 0, 1) := by decide +kernel
theorem dX5_init_91 : decode cX5_init 91 = .ok (.putfield 48, 3) := by decide +kernel
theorem dX5_init_94 : decode cX5_init 94 = .ok (.aload_n 0, 1) := by decide +kernel
theorem dX5_init_95 : decode cX5_init 95 = .ok (.iconst 0, 1) := by decide +kernel
theorem dX5_init_96 : decode cX5_init 96 = .ok (.putfield 51, 3) := by decide +kernel
theorem dX5_init_99 : decode cX5_init 99 = .ok (.aload_n 0, 1) := by decide +kernel
theorem dX5_init_100 : decode cX5_init 100 = .ok (.iconst 0, 1) := by decide +kernel
theorem dX5_init_101 : decode cX5_init 101 = .ok (.putfield 54, 3) := by decide +kernel
theorem dX5_init_104 : decode cX5_init 104 = .ok (.return_, 1) := by decide +kernel
set_option maxRecDepth 20000 in
theorem ggX5_copyFrom_X0_copyFrom : GoodIn wsX5_copyFrom wsX0_copyFrom := goodIn_r _ [16, 17, 18, 19, 20, 21, 22, 23, 24, 25, 26, 27, 28, 29, 30, 31, 32, 33, 54, 55, 56, 57, 58, 59, 60, 61] (by decide +kernel) (by decide +kernel)
set_option maxRecDepth 20000 in
theorem gX5_copyFrom_X0_copyFrom : GoodIn wsX5_copyFrom (wsV RX5 57 RX0 yX0_copyFrom wsX0_copyFrom) := goodIn_app (goodIn_of _ (by decide +kernel)) ggX5_copyFrom_X0_copyFrom
set_option maxRecDepth 20000 in
theorem ggX5_copyFrom_X6_copyFrom : GoodIn wsX5_copyFrom wsX6_copyFrom := goodIn_r _ [27, 28, 29, 30, 31, 32, 33, 60, 61] (by decide +kernel) (by decide +kernel)
set_option maxRecDepth 20000 in
theorem gX5_copyFrom_X6_copyFrom : GoodIn wsX5_copyFrom (wsV RX5 61 RX6 yX6_copyFrom wsX6_copyFrom) := goodIn_app (goodIn_of _ (by decide +kernel)) ggX5_copyFrom_X6_copyFrom
set_option maxRecDepth 20000 in
theorem ggX5_copyFrom_X1_copyFrom : GoodIn wsX5_copyFrom wsX1_copyFrom := goodIn_r _ [39, 40, 41, 42, 31, 32, 33, 62, 63] (by decide +kernel) (by decide +kernel)
set_option maxRecDepth 20000 in
theorem gX5_copyFrom_X1_copyFrom : GoodIn wsX5_copyFrom (wsV RX5 64 RX1 yX1_copyFrom wsX1_copyFrom) := goodIn_app (goodIn_of _ (by decide +kernel)) ggX5_copyFrom_X1_copyFrom
theorem dX5_copyFrom_0 : decode cX5_copyFrom 0 = .ok (.iconst 0, 1) := by decide +kernel
theorem dX5_copyFrom_1 : decode cX5_copyFrom 1 = .ok (.istore_n 2, 1) := by decide +kernel
theorem dX5_copyFrom_2 : decode cX5_copyFrom 2 = .ok (.iload_n 2, 1) := by decide +kernel
theorem dX5_copyFrom_3 : decode cX5_copyFrom 3 = .ok (.iconst 3, 1) := by decide +kernel
theorem dX5_copyFrom_4 : decode cX5_copyFrom 4 = .ok (.if_icmp .ge 24, 3) := by decide +kernel
theorem dX5_copyFrom_7 : decode cX5_copyFrom 7 = .ok (.aload_n 0, 1) := by decide +kernel
theorem dX5_copyFrom_8 : decode cX5_copyFrom 8 = .ok (.getfield 12, 3) := by decide +kernel
theorem dX5_copyFrom_11 : decode cX5_copyFrom 11 = .ok (.iload_n 2, 1) := by decide +kernel
theorem dX5_copyFrom_12 : decode cX5_copyFrom 12 = .ok (.aaload, 1) := by decide +kernel
theorem dX5_copyFrom_13 : decode cX5_copyFrom 13 = .ok (.aload_n 1, 1) := by decide +kernel
theorem dX5_copyFrom_14 : decode cX5_copyFrom 14 = .ok (.getfield 12, 3) := by decide +kernel
theorem dX5_copyFrom_17 : decode cX5_copyFrom 17 = .ok (.iload_n 2, 1) := by decide +kernel
theorem dX5_copyFrom_18 : decode cX5_copyFrom 18 = .ok (.aaload, 1) := by decide +kernel
theorem dX5_copyFrom_19 : decode cX5_copyFrom 19 = .ok (.invokevirtual 57, 3) := by decide +kernel
theorem dX5_copyFrom_22 : decode cX5_copyFrom 22 = .ok (.iinc 2 1, 3) := by decide +kernel
theorem dX5_copyFrom_25 : decode cX5_copyFrom 25 = .ok (.goto (-23), 3) := by decide +kernel
theorem dX5_copyFrom_28 : decode cX5_copyFrom 28 = .ok (.aload_n 0, 1) := by decide +kernel
theorem dX5_copyFrom_29 : decode cX5_copyFrom 29 = .ok (.getfield 21, 3) := by decide +kernel
theorem dX5_copyFrom_32 : decode cX5_copyFrom 32 = .ok (.aload_n 1, 1) := by decide +kernel
theorem dX5_copyFrom_33 : decode cX5_copyFrom 33 = .ok (.getfield 21, 3) := by decide +kernel
theorem dX5_copyFrom_36 : decode cX5_copyFrom 36 = .ok (.invokevirtual 61, 3) := by decide +kernel
theorem dX5_copyFrom_39 : decode cX5_copyFrom 39 = .ok (.aload_n 0, 1) := by decide +kernel
theorem dX5_copyFrom_40 : decode cX5_copyFrom 40 = .ok (.getfield 28, 3) := by decide +kernel
theorem dX5_copyFrom_43 : decode cX5_copyFrom 43 = .ok (.aload_n 1, 1) := by decide +kernel
theorem dX5_copyFrom_44 : decode cX5_copyFrom 44 = .ok (.getfield 28, 3) := by decide +kernel
theorem dX5_copyFrom_47 : decode cX5_copyFrom 47 = .ok (.invokevirtual 64, 3) := by decide +kernel
theorem dX5_copyFrom_50 : decode cX5_copyFrom 50 = .ok (.aload_n 0, 1) := by decide +kernel
theorem dX5_copyFrom_51 : decode cX5_copyFrom 51 = .ok (.aload_n 1, 1) := by decide +kernel
theorem dX5_copyFrom_52 : decode cX5_copyFrom 52 = .ok (.getfield 32, 3) := by decide +kernel
theorem dX5_copyFrom_55 : decode cX5_copyFrom 55 = .ok (.putfield 32, 3) := by decide +kernel
theorem dX5_copyFrom_58 : decode cX5_copyFrom 58 = .ok (.aload_n 0, 1) := by decide +kernel
theorem dX5_copyFrom_59 : decode cX5_copyFrom 59 = .ok (.aload_n 1, 1) := by decide +kernel
theorem dX5_copyFrom_60 : decode cX5_copyFrom 60 = .ok (.getfield 36, 3) := by decide +kernel
theorem dX5_copyFrom_63 : decode cX5_copyFrom 63 = .ok (.putfield 36, 3) := by decide +kernel
theorem dX5_copyFrom_66 : decode cX5_copyFrom 66 = .ok (.aload_n 0, 1) := by decide +kernel
theorem dX5_copyFrom_67 : decode cX5_copyFrom 67 = .ok (.aload_n 1, 1) := by decide +kernel
theorem dX5_copyFrom_68 : decode cX5_copyFrom 68 = .ok (.getfield 39, 3) := by decide +kernel
theorem dX5_copyFrom_71 : decode cX5_copyFrom 71 = .ok (.putfield 39, 3) := by decide +kernel
theorem dX5_copyFrom_74 : decode cX5_copyFrom 74 = .ok (.aload_n 0, 1) := by decide +kernel
theorem dX5_copyFrom_75 : decode cX5_copyFrom 75 = .ok (.aload_n 1, 1) := by decide +kernel
theorem dX5_copyFrom_76 : decode cX5_copyFrom 76 = .ok (.getfield 42, 3) := by decide +kernel
theorem dX5_copyFrom_79 : decode cX5_copyFrom 79 = .ok (.putfield 42, 3) := by decide +kernel
theorem dX5_copyFrom_82 : decode cX5_copyFrom 82 = .ok (.aload_n 0, 1) := by decide +kernel
theorem dX5_copyFrom_83 : decode cX5_copyFrom 83 = .ok (.aload_n 1, 1) := by decide +kernel
theorem dX5_copyFrom_84 : decode cX5_copyFrom 84 = .ok (.getfield 45, 3) := by decide +kernel
theorem dX5_copyFrom_87 : decode cX5_copyFrom 87 = .ok (.putfield 45, 3) := by decide +kernel
theorem dX5_copyFrom_90 : decode cX5_copyFrom 90 = .ok (.aload_n 0, 1) := by decide +kernel
theorem dX5_copyFrom_91 : decode cX5_copyFrom 91 = .ok (.aload_n 1, 1) := by decide +kernel
theorem dX5_copyFrom_92 : decode cX5_copyFrom 92 = .ok (.getfield 48, 3) := by decide +kernel
theorem dX5_copyFrom_95 : decode cX5_copyFrom 95 = .ok (.putfield 48, 3) := by decide +kernel
theorem dX5_copyFrom_98 : decode cX5_copyFrom 98 = .ok (.aload_n 0, 1) := by decide +kernel
theorem dX5_copyFrom_99 : decode cX5_copyFrom 99 = .ok (.aload_n 1, 1) := by decide +kernel
theorem dX5_copyFrom_100 : decode cX5_copyFrom 100 = .ok (.getfield 51, 3) := by decide +kernel
theorem dX5_copyFrom_103 : decode cX5_copyFrom 103 = .ok (.putfield 51, 3) := by decide +kernel
theorem dX5_copyFrom_106 : decode cX5_copyFrom 106 = .ok (.aload_n 0, 1) := by decide +kernel
theorem dX5_copyFrom_107 : decode cX5_copyFrom 107 = .ok (.aload_n 1, 1) := by decide +kernel
theorem dX5_copyFrom_108 : decode cX5_copyFrom 108 = .ok (.getfield 54, 3) := by decide +kernel
theorem dX5_copyFrom_111 : decode cX5_copyFrom 111 = .ok (.putfield 54, 3) := by decide +kernel
theorem dX5_copyFrom_114 : decode cX5_copyFrom 114 = .ok (.return_, 1) := by decide +kernel
set_option maxRecDepth 20000 in
theorem ggX5_verdictOn_X1_has : GoodIn wsX5_verdictOn wsX1_has := goodIn_r _ [8, 9, 58, 59] (by decide +kernel) (by decide +kernel)
set_option maxRecDepth 20000 in
theorem gX5_verdictOn_X1_has : GoodIn wsX5_verdictOn (wsV RX5 70 RX1 yX1_has wsX1_has) := goodIn_app (goodIn_of _ (by decide +kernel)) ggX5_verdictOn_X1_has
set_option maxRecDepth 20000 in
theorem ggX5_verdictOn_X6_has : GoodIn wsX5_verdictOn wsX6_has := goodIn_r _ [14, 15, 60, 61] (by decide +kernel) (by decide +kernel)
set_option maxRecDepth 20000 in
theorem gX5_verdictOn_X6_has : GoodIn wsX5_verdictOn (wsV RX5 74 RX6 yX6_has wsX6_has) := goodIn_app (goodIn_of _ (by decide +kernel)) ggX5_verdictOn_X6_has
set_option maxRecDepth 20000 in
theorem ggX5_verdictOn_X5_verdictOnRepair : GoodIn wsX5_verdictOn wsX5_verdictOnRepair := goodIn_ca (goodIn_r _ [20, 21, 22, 23, 24, 19, 25, 26, 27, 28, 29, 30, 31, 32, 3, 33, 34, 35, 13, 36, 15, 37, 47, 48, 49, 50, 51, 52, 53, 54, 55, 56, 57, 62, 63, 64, 65, 66, 67, 60, 61] (by decide +kernel) (by decide +kernel)) (goodIn_sub (fun _ h => List.mem_cons_of_mem _ (List.mem_append_right _ h)) (by decide +kernel))
set_option maxRecDepth 20000 in
theorem gX5_verdictOn_X5_verdictOnRepair : GoodIn wsX5_verdictOn (wsV RX5 75 RX5 yX5_verdictOnRepair wsX5_verdictOnRepair) := goodIn_app (goodIn_of _ (by decide +kernel)) ggX5_verdictOn_X5_verdictOnRepair
set_option maxRecDepth 20000 in
theorem ggX5_verdictOn_X7_isBelt : GoodIn wsX5_verdictOn wsX7_isBelt := goodIn_r _ [40] (by decide +kernel) (by decide +kernel)
set_option maxRecDepth 20000 in
theorem gX5_verdictOn_X7_isBelt_n79 : GoodIn wsX5_verdictOn (wsX7_isBelt) := ggX5_verdictOn_X7_isBelt
set_option maxRecDepth 20000 in
theorem ggX5_verdictOn_X5_verdictOnBelt : GoodIn wsX5_verdictOn wsX5_verdictOnBelt := goodIn_r _ [44, 26, 45, 46, 27, 28, 1, 2, 22, 23, 24, 19, 25, 47, 48, 49, 50, 51, 52, 53, 54, 55, 56, 57, 62, 63, 64, 65, 66, 67, 60, 61, 58, 59] (by decide +kernel) (by decide +kernel)
set_option maxRecDepth 20000 in
theorem gX5_verdictOn_X5_verdictOnBelt : GoodIn wsX5_verdictOn (wsV RX5 82 RX5 yX5_verdictOnBelt wsX5_verdictOnBelt) := goodIn_app (goodIn_of _ (by decide +kernel)) ggX5_verdictOn_X5_verdictOnBelt
theorem dX5_verdictOn_0 : decode cX5_verdictOn 0 = .ok (.iload_n 1, 1) := by decide +kernel
theorem dX5_verdictOn_1 : decode cX5_verdictOn 1 = .ok (.lookupswitch 128 #[(104, 51), (111, 68), (114, 104), (115, 86), (119, 126)], 51) := by decide +kernel
theorem dX5_verdictOn_52 : decode cX5_verdictOn 52 = .ok (.aload_n 0, 1) := by decide +kernel
theorem dX5_verdictOn_53 : decode cX5_verdictOn 53 = .ok (.getfield 28, 3) := by decide +kernel
theorem dX5_verdictOn_56 : decode cX5_verdictOn 56 = .ok (.getfield 67, 3) := by decide +kernel
theorem dX5_verdictOn_59 : decode cX5_verdictOn 59 = .ok (.iconst 4, 1) := by decide +kernel
theorem dX5_verdictOn_60 : decode cX5_verdictOn 60 = .ok (.if_icmp .ge 7, 3) := by decide +kernel
theorem dX5_verdictOn_63 : decode cX5_verdictOn 63 = .ok (.iconst 0, 1) := by decide +kernel
theorem dX5_verdictOn_64 : decode cX5_verdictOn 64 = .ok (.goto 4, 3) := by decide +kernel
theorem dX5_verdictOn_67 : decode cX5_verdictOn 67 = .ok (.iconst 1, 1) := by decide +kernel
theorem dX5_verdictOn_68 : decode cX5_verdictOn 68 = .ok (.ireturn, 1) := by decide +kernel
theorem dX5_verdictOn_69 : decode cX5_verdictOn 69 = .ok (.aload_n 0, 1) := by decide +kernel
theorem dX5_verdictOn_70 : decode cX5_verdictOn 70 = .ok (.getfield 28, 3) := by decide +kernel
theorem dX5_verdictOn_73 : decode cX5_verdictOn 73 = .ok (.iload_n 2, 1) := by decide +kernel
theorem dX5_verdictOn_74 : decode cX5_verdictOn 74 = .ok (.invokevirtual 70, 3) := by decide +kernel
theorem dX5_verdictOn_77 : decode cX5_verdictOn 77 = .ok (.ifCond .eq 7, 3) := by decide +kernel
theorem dX5_verdictOn_80 : decode cX5_verdictOn 80 = .ok (.iconst 0, 1) := by decide +kernel
theorem dX5_verdictOn_81 : decode cX5_verdictOn 81 = .ok (.goto 5, 3) := by decide +kernel
theorem dX5_verdictOn_84 : decode cX5_verdictOn 84 = .ok (.bipush 6, 2) := by decide +kernel
theorem dX5_verdictOn_86 : decode cX5_verdictOn 86 = .ok (.ireturn, 1) := by decide +kernel
theorem dX5_verdictOn_87 : decode cX5_verdictOn 87 = .ok (.aload_n 0, 1) := by decide +kernel
theorem dX5_verdictOn_88 : decode cX5_verdictOn 88 = .ok (.getfield 21, 3) := by decide +kernel
theorem dX5_verdictOn_91 : decode cX5_verdictOn 91 = .ok (.iload_n 2, 1) := by decide +kernel
theorem dX5_verdictOn_92 : decode cX5_verdictOn 92 = .ok (.invokevirtual 74, 3) := by decide +kernel
theorem dX5_verdictOn_95 : decode cX5_verdictOn 95 = .ok (.ifCond .eq 7, 3) := by decide +kernel
theorem dX5_verdictOn_98 : decode cX5_verdictOn 98 = .ok (.iconst 0, 1) := by decide +kernel
theorem dX5_verdictOn_99 : decode cX5_verdictOn 99 = .ok (.goto 5, 3) := by decide +kernel
theorem dX5_verdictOn_102 : decode cX5_verdictOn 102 = .ok (.bipush 6, 2) := by decide +kernel
theorem dX5_verdictOn_104 : decode cX5_verdictOn 104 = .ok (.ireturn, 1) := by decide +kernel
theorem dX5_verdictOn_105 : decode cX5_verdictOn 105 = .ok (.aload_n 0, 1) := by decide +kernel
theorem dX5_verdictOn_106 : decode cX5_verdictOn 106 = .ok (.getfield 21, 3) := by decide +kernel
theorem dX5_verdictOn_109 : decode cX5_verdictOn 109 = .ok (.iload_n 2, 1) := by decide +kernel
theorem dX5_verdictOn_110 : decode cX5_verdictOn 110 = .ok (.invokevirtual 74, 3) := by decide +kernel
theorem dX5_verdictOn_113 : decode cX5_verdictOn 113 = .ok (.ifCond .eq 11, 3) := by decide +kernel
theorem dX5_verdictOn_116 : decode cX5_verdictOn 116 = .ok (.aload_n 0, 1) := by decide +kernel
theorem dX5_verdictOn_117 : decode cX5_verdictOn 117 = .ok (.iload_n 2, 1) := by decide +kernel
theorem dX5_verdictOn_118 : decode cX5_verdictOn 118 = .ok (.invokevirtual 75, 3) := by decide +kernel
theorem dX5_verdictOn_121 : decode cX5_verdictOn 121 = .ok (.goto 5, 3) := by decide +kernel
theorem dX5_verdictOn_124 : decode cX5_verdictOn 124 = .ok (.bipush 6, 2) := by decide +kernel
theorem dX5_verdictOn_126 : decode cX5_verdictOn 126 = .ok (.ireturn, 1) := by decide +kernel
theorem dX5_verdictOn_127 : decode cX5_verdictOn 127 = .ok (.iconst 0, 1) := by decide +kernel
theorem dX5_verdictOn_128 : decode cX5_verdictOn 128 = .ok (.ireturn, 1) := by decide +kernel
theorem dX5_verdictOn_129 : decode cX5_verdictOn 129 = .ok (.iload_n 2, 1) := by decide +kernel
theorem dX5_verdictOn_130 : decode cX5_verdictOn 130 = .ok (.invokestatic 79, 3) := by decide +kernel
theorem dX5_verdictOn_133 : decode cX5_verdictOn 133 = .ok (.ifCond .eq 15, 3) := by decide +kernel
theorem dX5_verdictOn_136 : decode cX5_verdictOn 136 = .ok (.aload_n 0, 1) := by decide +kernel
theorem dX5_verdictOn_137 : decode cX5_verdictOn 137 = .ok (.iload_n 1, 1) := by decide +kernel
theorem dX5_verdictOn_138 : decode cX5_verdictOn 138 = .ok (.iload_n 2, 1) := by decide +kernel
theorem dX5_verdictOn_139 : decode cX5_verdictOn 139 = .ok (.iload_n 3, 1) := by decide +kernel
theorem dX5_verdictOn_140 : decode cX5_verdictOn 140 = .ok (.iload 4, 2) := by decide +kernel
theorem dX5_verdictOn_142 : decode cX5_verdictOn 142 = .ok (.invokevirtual 82, 3) := by decide +kernel
theorem dX5_verdictOn_145 : decode cX5_verdictOn 145 = .ok (.goto 5, 3) := by decide +kernel
theorem dX5_verdictOn_148 : decode cX5_verdictOn 148 = .ok (.bipush 6, 2) := by decide +kernel
theorem dX5_verdictOn_150 : decode cX5_verdictOn 150 = .ok (.ireturn, 1) := by decide +kernel
set_option maxRecDepth 20000 in
theorem ggX5_verdictOnRepair_X5_isFull : GoodIn wsX5_verdictOnRepair wsX5_isFull := goodIn_r _ [6, 7, 8, 9, 22, 23, 24, 25, 26, 27, 28, 29, 30, 31, 32, 33, 34, 35, 36, 37, 38, 39, 40] (by decide +kernel) (by decide +kernel)
set_option maxRecDepth 20000 in
theorem gX5_verdictOnRepair_X5_isFull : GoodIn wsX5_verdictOnRepair (wsV RX5 86 RX5 yX5_isFull wsX5_isFull) := goodIn_app (goodIn_of _ (by decide +kernel)) ggX5_verdictOnRepair_X5_isFull
set_option maxRecDepth 20000 in
theorem ggX5_verdictOnRepair_X5_repairCost : GoodIn wsX5_verdictOnRepair wsX5_repairCost := goodIn_ca (goodIn_r _ [13, 14, 15, 16, 17, 18, 19, 20, 21, 22, 23, 24, 25, 26, 27, 28, 29, 30, 31, 32, 39, 40] (by decide +kernel) (by decide +kernel)) (goodIn_sub (fun _ h => List.mem_cons_of_mem _ (List.mem_append_right _ h)) (by decide +kernel))
set_option maxRecDepth 20000 in
theorem gX5_verdictOnRepair_X5_repairCost : GoodIn wsX5_verdictOnRepair (wsV RX5 89 RX5 yX5_repairCost wsX5_repairCost) := goodIn_app (goodIn_of _ (by decide +kernel)) ggX5_verdictOnRepair_X5_repairCost
theorem dX5_verdictOnRepair_0 : decode cX5_verdictOnRepair 0 = .ok (.aload_n 0, 1) := by decide +kernel
theorem dX5_verdictOnRepair_1 : decode cX5_verdictOnRepair 1 = .ok (.iconst 0, 1) := by decide +kernel
theorem dX5_verdictOnRepair_2 : decode cX5_verdictOnRepair 2 = .ok (.invokevirtual 86, 3) := by decide +kernel
theorem dX5_verdictOnRepair_5 : decode cX5_verdictOnRepair 5 = .ok (.ifCond .eq 5, 3) := by decide +kernel
theorem dX5_verdictOnRepair_8 : decode cX5_verdictOnRepair 8 = .ok (.iconst 1, 1) := by decide +kernel
theorem dX5_verdictOnRepair_9 : decode cX5_verdictOnRepair 9 = .ok (.ireturn, 1) := by decide +kernel
theorem dX5_verdictOnRepair_10 : decode cX5_verdictOnRepair 10 = .ok (.aload_n 0, 1) := by decide +kernel
theorem dX5_verdictOnRepair_11 : decode cX5_verdictOnRepair 11 = .ok (.getfield 32, 3) := by decide +kernel
theorem dX5_verdictOnRepair_14 : decode cX5_verdictOnRepair 14 = .ok (.aload_n 0, 1) := by decide +kernel
theorem dX5_verdictOnRepair_15 : decode cX5_verdictOnRepair 15 = .ok (.iload_n 1, 1) := by decide +kernel
theorem dX5_verdictOnRepair_16 : decode cX5_verdictOnRepair 16 = .ok (.invokevirtual 89, 3) := by decide +kernel
theorem dX5_verdictOnRepair_19 : decode cX5_verdictOnRepair 19 = .ok (.if_icmp .ge 7, 3) := by decide +kernel
theorem dX5_verdictOnRepair_22 : decode cX5_verdictOnRepair 22 = .ok (.iconst 5, 1) := by decide +kernel
theorem dX5_verdictOnRepair_23 : decode cX5_verdictOnRepair 23 = .ok (.goto 4, 3) := by decide +kernel
theorem dX5_verdictOnRepair_26 : decode cX5_verdictOnRepair 26 = .ok (.iconst 0, 1) := by decide +kernel
theorem dX5_verdictOnRepair_27 : decode cX5_verdictOnRepair 27 = .ok (.ireturn, 1) := by decide +kernel
set_option maxRecDepth 20000 in
theorem ggX5_verdictOnBelt_X5_isFull : GoodIn wsX5_verdictOnBelt wsX5_isFull := goodIn_r _ [12, 1, 4, 5, 13, 14, 15, 16, 17, 18, 19, 20, 21, 22, 23, 24, 25, 26, 27, 28, 29, 30, 31] (by decide +kernel) (by decide +kernel)
set_option maxRecDepth 20000 in
theorem gX5_verdictOnBelt_X5_isFull : GoodIn wsX5_verdictOnBelt (wsV RX5 86 RX5 yX5_isFull wsX5_isFull) := goodIn_app (goodIn_of _ (by decide +kernel)) ggX5_verdictOnBelt_X5_isFull
theorem dX5_verdictOnBelt_0 : decode cX5_verdictOnBelt 0 = .ok (.iload_n 3, 1) := by decide +kernel
theorem dX5_verdictOnBelt_1 : decode cX5_verdictOnBelt 1 = .ok (.ifCond .lt 26, 3) := by decide +kernel
theorem dX5_verdictOnBelt_4 : decode cX5_verdictOnBelt 4 = .ok (.iload_n 3, 1) := by decide +kernel
theorem dX5_verdictOnBelt_5 : decode cX5_verdictOnBelt 5 = .ok (.bipush 9, 2) := by decide +kernel
theorem dX5_verdictOnBelt_7 : decode cX5_verdictOnBelt 7 = .ok (.if_icmp .gt 20, 3) := by decide +kernel
theorem dX5_verdictOnBelt_10 : decode cX5_verdictOnBelt 10 = .ok (.iload 4, 2) := by decide +kernel
theorem dX5_verdictOnBelt_12 : decode cX5_verdictOnBelt 12 = .ok (.iconst 4, 1) := by decide +kernel
theorem dX5_verdictOnBelt_13 : decode cX5_verdictOnBelt 13 = .ok (.if_icmp .lt 14, 3) := by decide +kernel
theorem dX5_verdictOnBelt_16 : decode cX5_verdictOnBelt 16 = .ok (.iload 4, 2) := by decide +kernel
theorem dX5_verdictOnBelt_18 : decode cX5_verdictOnBelt 18 = .ok (.bipush 9, 2) := by decide +kernel
theorem dX5_verdictOnBelt_20 : decode cX5_verdictOnBelt 20 = .ok (.if_icmp .gt 7, 3) := by decide +kernel
theorem dX5_verdictOnBelt_23 : decode cX5_verdictOnBelt 23 = .ok (.iconst 1, 1) := by decide +kernel
theorem dX5_verdictOnBelt_24 : decode cX5_verdictOnBelt 24 = .ok (.goto 4, 3) := by decide +kernel
theorem dX5_verdictOnBelt_27 : decode cX5_verdictOnBelt 27 = .ok (.iconst 0, 1) := by decide +kernel
theorem dX5_verdictOnBelt_28 : decode cX5_verdictOnBelt 28 = .ok (.istore 5, 2) := by decide +kernel
theorem dX5_verdictOnBelt_30 : decode cX5_verdictOnBelt 30 = .ok (.iload_n 1, 1) := by decide +kernel
theorem dX5_verdictOnBelt_31 : decode cX5_verdictOnBelt 31 = .ok (.lookupswitch 129 #[(105, 96), (109, 33), (116, 55)], 33) := by decide +kernel
theorem dX5_verdictOnBelt_64 : decode cX5_verdictOnBelt 64 = .ok (.iload 5, 2) := by decide +kernel
theorem dX5_verdictOnBelt_66 : decode cX5_verdictOnBelt 66 = .ok (.ifCond .ne 6, 3) := by decide +kernel
theorem dX5_verdictOnBelt_69 : decode cX5_verdictOnBelt 69 = .ok (.bipush 7, 2) := by decide +kernel
theorem dX5_verdictOnBelt_71 : decode cX5_verdictOnBelt 71 = .ok (.ireturn, 1) := by decide +kernel
theorem dX5_verdictOnBelt_72 : decode cX5_verdictOnBelt 72 = .ok (.aload_n 0, 1) := by decide +kernel
theorem dX5_verdictOnBelt_73 : decode cX5_verdictOnBelt 73 = .ok (.iload_n 2, 1) := by decide +kernel
theorem dX5_verdictOnBelt_74 : decode cX5_verdictOnBelt 74 = .ok (.invokevirtual 86, 3) := by decide +kernel
theorem dX5_verdictOnBelt_77 : decode cX5_verdictOnBelt 77 = .ok (.ifCond .eq 7, 3) := by decide +kernel
theorem dX5_verdictOnBelt_80 : decode cX5_verdictOnBelt 80 = .ok (.iconst 1, 1) := by decide +kernel
theorem dX5_verdictOnBelt_81 : decode cX5_verdictOnBelt 81 = .ok (.goto 4, 3) := by decide +kernel
theorem dX5_verdictOnBelt_84 : decode cX5_verdictOnBelt 84 = .ok (.iconst 0, 1) := by decide +kernel
theorem dX5_verdictOnBelt_85 : decode cX5_verdictOnBelt 85 = .ok (.ireturn, 1) := by decide +kernel
theorem dX5_verdictOnBelt_86 : decode cX5_verdictOnBelt 86 = .ok (.iload 5, 2) := by decide +kernel
theorem dX5_verdictOnBelt_88 : decode cX5_verdictOnBelt 88 = .ok (.ifCond .ne 6, 3) := by decide +kernel
theorem dX5_verdictOnBelt_91 : decode cX5_verdictOnBelt 91 = .ok (.bipush 7, 2) := by decide +kernel
theorem dX5_verdictOnBelt_93 : decode cX5_verdictOnBelt 93 = .ok (.ireturn, 1) := by decide +kernel
theorem dX5_verdictOnBelt_94 : decode cX5_verdictOnBelt 94 = .ok (.iload_n 3, 1) := by decide +kernel
theorem dX5_verdictOnBelt_95 : decode cX5_verdictOnBelt 95 = .ok (.aload_n 0, 1) := by decide +kernel
theorem dX5_verdictOnBelt_96 : decode cX5_verdictOnBelt 96 = .ok (.getfield 12, 3) := by decide +kernel
theorem dX5_verdictOnBelt_99 : decode cX5_verdictOnBelt 99 = .ok (.iload_n 2, 1) := by decide +kernel
theorem dX5_verdictOnBelt_100 : decode cX5_verdictOnBelt 100 = .ok (.aaload, 1) := by decide +kernel
theorem dX5_verdictOnBelt_101 : decode cX5_verdictOnBelt 101 = .ok (.getfield 92, 3) := by decide +kernel
theorem dX5_verdictOnBelt_104 : decode cX5_verdictOnBelt 104 = .ok (.if_icmp .ne 21, 3) := by decide +kernel
theorem dX5_verdictOnBelt_107 : decode cX5_verdictOnBelt 107 = .ok (.iload 4, 2) := by decide +kernel
theorem dX5_verdictOnBelt_109 : decode cX5_verdictOnBelt 109 = .ok (.aload_n 0, 1) := by decide +kernel
theorem dX5_verdictOnBelt_110 : decode cX5_verdictOnBelt 110 = .ok (.getfield 12, 3) := by decide +kernel
theorem dX5_verdictOnBelt_113 : decode cX5_verdictOnBelt 113 = .ok (.iload_n 2, 1) := by decide +kernel
theorem dX5_verdictOnBelt_114 : decode cX5_verdictOnBelt 114 = .ok (.aaload, 1) := by decide +kernel
theorem dX5_verdictOnBelt_115 : decode cX5_verdictOnBelt 115 = .ok (.getfield 95, 3) := by decide +kernel
theorem dX5_verdictOnBelt_118 : decode cX5_verdictOnBelt 118 = .ok (.if_icmp .ne 7, 3) := by decide +kernel
theorem dX5_verdictOnBelt_121 : decode cX5_verdictOnBelt 121 = .ok (.iconst 2, 1) := by decide +kernel
theorem dX5_verdictOnBelt_122 : decode cX5_verdictOnBelt 122 = .ok (.goto 4, 3) := by decide +kernel
theorem dX5_verdictOnBelt_125 : decode cX5_verdictOnBelt 125 = .ok (.iconst 0, 1) := by decide +kernel
theorem dX5_verdictOnBelt_126 : decode cX5_verdictOnBelt 126 = .ok (.ireturn, 1) := by decide +kernel
theorem dX5_verdictOnBelt_127 : decode cX5_verdictOnBelt 127 = .ok (.aload_n 0, 1) := by decide +kernel
theorem dX5_verdictOnBelt_128 : decode cX5_verdictOnBelt 128 = .ok (.getfield 12, 3) := by decide +kernel
theorem dX5_verdictOnBelt_131 : decode cX5_verdictOnBelt 131 = .ok (.iload_n 2, 1) := by decide +kernel
theorem dX5_verdictOnBelt_132 : decode cX5_verdictOnBelt 132 = .ok (.aaload, 1) := by decide +kernel
theorem dX5_verdictOnBelt_133 : decode cX5_verdictOnBelt 133 = .ok (.getfield 98, 3) := by decide +kernel
theorem dX5_verdictOnBelt_136 : decode cX5_verdictOnBelt 136 = .ok (.getfield 101, 3) := by decide +kernel
theorem dX5_verdictOnBelt_139 : decode cX5_verdictOnBelt 139 = .ok (.ifCond .ne 5, 3) := by decide +kernel
theorem dX5_verdictOnBelt_142 : decode cX5_verdictOnBelt 142 = .ok (.iconst 3, 1) := by decide +kernel
theorem dX5_verdictOnBelt_143 : decode cX5_verdictOnBelt 143 = .ok (.ireturn, 1) := by decide +kernel
theorem dX5_verdictOnBelt_144 : decode cX5_verdictOnBelt 144 = .ok (.aload_n 0, 1) := by decide +kernel
theorem dX5_verdictOnBelt_145 : decode cX5_verdictOnBelt 145 = .ok (.getfield 28, 3) := by decide +kernel
theorem dX5_verdictOnBelt_148 : decode cX5_verdictOnBelt 148 = .ok (.getfield 67, 3) := by decide +kernel
theorem dX5_verdictOnBelt_151 : decode cX5_verdictOnBelt 151 = .ok (.ifCond .ne 7, 3) := by decide +kernel
theorem dX5_verdictOnBelt_154 : decode cX5_verdictOnBelt 154 = .ok (.iconst 4, 1) := by decide +kernel
theorem dX5_verdictOnBelt_155 : decode cX5_verdictOnBelt 155 = .ok (.goto 4, 3) := by decide +kernel
theorem dX5_verdictOnBelt_158 : decode cX5_verdictOnBelt 158 = .ok (.iconst 0, 1) := by decide +kernel
theorem dX5_verdictOnBelt_159 : decode cX5_verdictOnBelt 159 = .ok (.ireturn, 1) := by decide +kernel
theorem dX5_verdictOnBelt_160 : decode cX5_verdictOnBelt 160 = .ok (.aload_n 0, 1) := by decide +kernel
theorem dX5_verdictOnBelt_161 : decode cX5_verdictOnBelt 161 = .ok (.iload_n 2, 1) := by decide +kernel
theorem dX5_verdictOnBelt_162 : decode cX5_verdictOnBelt 162 = .ok (.invokevirtual 86, 3) := by decide +kernel
theorem dX5_verdictOnBelt_165 : decode cX5_verdictOnBelt 165 = .ok (.ifCond .eq 7, 3) := by decide +kernel
theorem dX5_verdictOnBelt_168 : decode cX5_verdictOnBelt 168 = .ok (.iconst 1, 1) := by decide +kernel
theorem dX5_verdictOnBelt_169 : decode cX5_verdictOnBelt 169 = .ok (.goto 4, 3) := by decide +kernel
theorem dX5_verdictOnBelt_172 : decode cX5_verdictOnBelt 172 = .ok (.iconst 0, 1) := by decide +kernel
theorem dX5_verdictOnBelt_173 : decode cX5_verdictOnBelt 173 = .ok (.ireturn, 1) := by decide +kernel
theorem dX5_isFull_0 : decode cX5_isFull 0 = .ok (.aload_n 0, 1) := by decide +kernel
theorem dX5_isFull_1 : decode cX5_isFull 1 = .ok (.getfield 12, 3) := by decide +kernel
theorem dX5_isFull_4 : decode cX5_isFull 4 = .ok (.iload_n 1, 1) := by decide +kernel
theorem dX5_isFull_5 : decode cX5_isFull 5 = .ok (.aaload, 1) := by decide +kernel
theorem dX5_isFull_6 : decode cX5_isFull 6 = .ok (.getfield 98, 3) := by decide +kernel
theorem dX5_isFull_9 : decode cX5_isFull 9 = .ok (.getfield 101, 3) := by decide +kernel
theorem dX5_isFull_12 : decode cX5_isFull 12 = .ok (.iconst 5, 1) := by decide +kernel
theorem dX5_isFull_13 : decode cX5_isFull 13 = .ok (.if_icmp .lt 7, 3) := by decide +kernel
theorem dX5_isFull_16 : decode cX5_isFull 16 = .ok (.iconst 1, 1) := by decide +kernel
theorem dX5_isFull_17 : decode cX5_isFull 17 = .ok (.goto 4, 3) := by decide +kernel
theorem dX5_isFull_20 : decode cX5_isFull 20 = .ok (.iconst 0, 1) := by decide +kernel
theorem dX5_isFull_21 : decode cX5_isFull 21 = .ok (.ireturn, 1) := by decide +kernel
set_option maxRecDepth 20000 in
theorem ggX5_detailOf_X5_repairCost : GoodIn wsX5_detailOf wsX5_repairCost := goodIn_ca (goodIn_r _ [9, 10, 11, 12, 13, 14, 15, 16, 17, 18, 19, 20, 21, 22, 23, 24, 25, 26, 27, 28, 35, 36] (by decide +kernel) (by decide +kernel)) (goodIn_sub (fun _ h => List.mem_cons_of_mem _ (List.mem_append_right _ h)) (by decide +kernel))
set_option maxRecDepth 20000 in
theorem gX5_detailOf_X5_repairCost : GoodIn wsX5_detailOf (wsV RX5 89 RX5 yX5_repairCost wsX5_repairCost) := goodIn_app (goodIn_of _ (by decide +kernel)) ggX5_detailOf_X5_repairCost
theorem dX5_detailOf_0 : decode cX5_detailOf 0 = .ok (.iload_n 1, 1) := by decide +kernel
theorem dX5_detailOf_1 : decode cX5_detailOf 1 = .ok (.tableswitch 60 1 4 #[31, 43, 53, 55], 31) := by decide +kernel
theorem dX5_detailOf_32 : decode cX5_detailOf 32 = .ok (.iload_n 2, 1) := by decide +kernel
theorem dX5_detailOf_33 : decode cX5_detailOf 33 = .ok (.bipush 104, 2) := by decide +kernel
theorem dX5_detailOf_35 : decode cX5_detailOf 35 = .ok (.if_icmp .ne 7, 3) := by decide +kernel
theorem dX5_detailOf_38 : decode cX5_detailOf 38 = .ok (.iconst 4, 1) := by decide +kernel
theorem dX5_detailOf_39 : decode cX5_detailOf 39 = .ok (.goto 4, 3) := by decide +kernel
theorem dX5_detailOf_42 : decode cX5_detailOf 42 = .ok (.iconst 5, 1) := by decide +kernel
theorem dX5_detailOf_43 : decode cX5_detailOf 43 = .ok (.ireturn, 1) := by decide +kernel
theorem dX5_detailOf_44 : decode cX5_detailOf 44 = .ok (.aload_n 0, 1) := by decide +kernel
theorem dX5_detailOf_45 : decode cX5_detailOf 45 = .ok (.getfield 12, 3) := by decide +kernel
theorem dX5_detailOf_48 : decode cX5_detailOf 48 = .ok (.iload_n 3, 1) := by decide +kernel
theorem dX5_detailOf_49 : decode cX5_detailOf 49 = .ok (.aaload, 1) := by decide +kernel
theorem dX5_detailOf_50 : decode cX5_detailOf 50 = .ok (.getfield 92, 3) := by decide +kernel
theorem dX5_detailOf_53 : decode cX5_detailOf 53 = .ok (.ireturn, 1) := by decide +kernel
theorem dX5_detailOf_54 : decode cX5_detailOf 54 = .ok (.iload_n 3, 1) := by decide +kernel
theorem dX5_detailOf_55 : decode cX5_detailOf 55 = .ok (.ireturn, 1) := by decide +kernel
theorem dX5_detailOf_56 : decode cX5_detailOf 56 = .ok (.aload_n 0, 1) := by decide +kernel
theorem dX5_detailOf_57 : decode cX5_detailOf 57 = .ok (.getfield 36, 3) := by decide +kernel
theorem dX5_detailOf_60 : decode cX5_detailOf 60 = .ok (.ireturn, 1) := by decide +kernel
theorem dX5_detailOf_61 : decode cX5_detailOf 61 = .ok (.aload_n 0, 1) := by decide +kernel
theorem dX5_detailOf_62 : decode cX5_detailOf 62 = .ok (.iload_n 3, 1) := by decide +kernel
theorem dX5_detailOf_63 : decode cX5_detailOf 63 = .ok (.invokevirtual 89, 3) := by decide +kernel
theorem dX5_detailOf_66 : decode cX5_detailOf 66 = .ok (.aload_n 0, 1) := by decide +kernel
theorem dX5_detailOf_67 : decode cX5_detailOf 67 = .ok (.getfield 32, 3) := by decide +kernel
theorem dX5_detailOf_70 : decode cX5_detailOf 70 = .ok (.isub, 1) := by decide +kernel
theorem dX5_detailOf_71 : decode cX5_detailOf 71 = .ok (.ireturn, 1) := by decide +kernel
set_option maxRecDepth 20000 in
theorem ggX5_carryOut_X5_makeMonday : GoodIn wsX5_carryOut wsX5_makeMonday := goodIn_ca (goodIn_r _ [7, 8, 9, 10, 11, 6, 12, 1, 13, 14, 15, 16, 17, 18, 19, 20, 21, 174, 175, 176, 177, 178, 179, 180, 181, 182, 183, 184, 185, 186, 187, 188, 189, 190, 191, 192] (by decide +kernel) (by decide +kernel)) (goodIn_sub (fun _ h => List.mem_cons_of_mem _ (List.mem_append_right _ h)) (by decide +kernel))
set_option maxRecDepth 20000 in
theorem gX5_carryOut_X5_makeMonday : GoodIn wsX5_carryOut (wsV RX5 102 RX5 yX5_makeMonday wsX5_makeMonday) := goodIn_app (goodIn_of _ (by decide +kernel)) ggX5_carryOut_X5_makeMonday
set_option maxRecDepth 20000 in
theorem ggX5_carryOut_X5_addCarrier : GoodIn wsX5_carryOut wsX5_addCarrier := goodIn_ca (goodIn_r _ [12, 1, 13, 14, 15, 16, 17, 18, 19, 20, 21, 174, 175, 176, 177, 178, 179, 180, 181, 182, 183, 184, 185, 186, 187, 188, 189, 190, 191, 192] (by decide +kernel) (by decide +kernel)) (goodIn_sub (fun _ h => List.mem_cons_of_mem _ (List.mem_append_right _ h)) (by decide +kernel))
set_option maxRecDepth 20000 in
theorem gX5_carryOut_X5_addCarrier : GoodIn wsX5_carryOut (wsV RX5 106 RX5 yX5_addCarrier wsX5_addCarrier) := goodIn_app (goodIn_of _ (by decide +kernel)) ggX5_carryOut_X5_addCarrier
set_option maxRecDepth 20000 in
theorem ggX5_carryOut_X5_tellBelt : GoodIn wsX5_carryOut wsX5_tellBelt := goodIn_r _ [24, 25, 26, 185, 186, 187, 188, 189, 190] (by decide +kernel) (by decide +kernel)
set_option maxRecDepth 20000 in
theorem gX5_carryOut_X5_tellBelt : GoodIn wsX5_carryOut (va_wsS RX5 110 yX5_tellBelt wsX5_tellBelt) := goodIn_app (goodIn_of _ (by decide +kernel)) ggX5_carryOut_X5_tellBelt
set_option maxRecDepth 20000 in
theorem ggX5_carryOut_X5_inspectFront : GoodIn wsX5_carryOut wsX5_inspectFront := goodIn_ca (goodIn_r _ [30, 1, 2, 13, 31, 32, 33, 34, 35, 36, 37, 38, 39, 40, 41, 42, 43, 44, 18, 45, 46, 47, 48, 49, 20, 21, 50, 51, 52, 53, 54, 55, 56, 57, 58, 59, 60, 61, 62, 63, 64, 65, 66, 67, 6, 68, 69, 70, 71, 72, 73, 74, 75, 76, 77, 78, 79, 80, 81, 82, 83, 84, 85, 86, 87, 88, 89, 90, 91, 92, 93, 94, 95, 96, 97, 98, 99, 100, 101, 102, 103, 14, 104, 105, 15, 16, 17, 19, 106, 107, 108, 109, 110, 111, 112, 113, 174, 175, 176, 177, 178, 179, 180, 181, 182, 183, 184, 185, 186, 187, 188, 189, 190, 193, 194, 191, 192] (by decide +kernel) (by decide +kernel)) (goodIn_sub (fun _ h => List.mem_cons_of_mem _ (List.mem_append_right _ h)) (by decide +kernel))
set_option maxRecDepth 20000 in
theorem gX5_carryOut_X5_inspectFront : GoodIn wsX5_carryOut (wsV RX5 114 RX5 yX5_inspectFront wsX5_inspectFront) := goodIn_app (goodIn_of _ (by decide +kernel)) ggX5_carryOut_X5_inspectFront
set_option maxRecDepth 20000 in
theorem ggX5_carryOut_X1_join : GoodIn wsX5_carryOut wsX1_join := goodIn_ca (goodIn_r _ [117, 36, 41, 193, 194] (by decide +kernel) (by decide +kernel)) (goodIn_sub (fun _ h => List.mem_cons_of_mem _ (List.mem_append_right _ h)) (by decide +kernel))
set_option maxRecDepth 20000 in
theorem gX5_carryOut_X1_join : GoodIn wsX5_carryOut (wsV RX5 117 RX1 yX1_join wsX1_join) := goodIn_app (goodIn_of _ (by decide +kernel)) ggX5_carryOut_X1_join
set_option maxRecDepth 20000 in
theorem ggX5_carryOut_X1_part : GoodIn wsX5_carryOut wsX1_part := goodIn_ca (goodIn_r _ [121, 41, 36, 122, 111, 112, 113, 123, 81, 82, 34, 83, 61, 62, 63, 64, 193, 194] (by decide +kernel) (by decide +kernel)) (goodIn_sub (fun _ h => List.mem_cons_of_mem _ (List.mem_append_right _ h)) (by decide +kernel))
set_option maxRecDepth 20000 in
theorem gX5_carryOut_X1_part : GoodIn wsX5_carryOut (wsV RX5 121 RX1 yX1_part wsX1_part) := goodIn_app (goodIn_of _ (by decide +kernel)) ggX5_carryOut_X1_part
set_option maxRecDepth 20000 in
theorem ggX5_carryOut_X5_sellReject : GoodIn wsX5_carryOut wsX5_sellReject := goodIn_ca (goodIn_r _ [127, 103, 128, 129, 130, 131, 132, 133, 6, 134, 135, 59, 56, 60, 136, 137, 138, 139, 105, 47, 48, 18, 49, 20, 21, 106, 107, 108, 109, 110, 111, 112, 113, 174, 175, 176, 177, 178, 179, 180, 181, 182, 183, 184, 191, 192] (by decide +kernel) (by decide +kernel)) (goodIn_sub (fun _ h => List.mem_cons_of_mem _ (List.mem_append_right _ h)) (by decide +kernel))
set_option maxRecDepth 20000 in
theorem gX5_carryOut_X5_sellReject : GoodIn wsX5_carryOut (wsV RX5 124 RX5 yX5_sellReject wsX5_sellReject) := goodIn_app (goodIn_of _ (by decide +kernel)) ggX5_carryOut_X5_sellReject
set_option maxRecDepth 20000 in
theorem ggX5_carryOut_X5_repairReject : GoodIn wsX5_carryOut wsX5_repairReject := goodIn_ca (goodIn_r _ [143, 103, 128, 144, 145, 146, 147, 6, 148, 105, 47, 48, 18, 49, 20, 21, 149, 150, 151, 152, 153, 55, 56, 57, 72, 73, 74, 75, 46, 154, 155, 156, 157, 135, 59, 60, 76, 77, 78, 79, 9, 10, 11, 12, 1, 13, 14, 15, 16, 17, 19, 106, 107, 108, 109, 110, 111, 112, 113, 174, 175, 176, 177, 178, 179, 180, 181, 182, 183, 184, 191, 192, 185, 186, 187, 188, 189, 190] (by decide +kernel) (by decide +kernel)) (goodIn_sub (fun _ h => List.mem_cons_of_mem _ (List.mem_append_right _ h)) (by decide +kernel))
set_option maxRecDepth 20000 in
theorem gX5_carryOut_X5_repairReject : GoodIn wsX5_carryOut (wsV RX5 127 RX5 yX5_repairReject wsX5_repairReject) := goodIn_app (goodIn_of _ (by decide +kernel)) ggX5_carryOut_X5_repairReject
set_option maxRecDepth 20000 in
theorem ggX5_carryOut_X5_endWeek : GoodIn wsX5_carryOut wsX5_endWeek := goodIn_ca (goodIn_r _ [161, 1, 13, 14, 2, 104, 130, 162, 42, 43, 44, 18, 45, 46, 47, 48, 49, 20, 21, 106, 107, 108, 109, 110, 111, 112, 113, 163, 164, 165, 166, 167, 16, 17, 19, 168, 169, 170, 171, 34, 172, 36, 173, 51, 52, 53, 41, 54, 55, 56, 57, 58, 59, 60, 61, 62, 63, 64, 174, 175, 176, 177, 178, 179, 180, 181, 182, 183, 184, 185, 186, 187, 188, 189, 190, 191, 192, 193, 194] (by decide +kernel) (by decide +kernel)) (goodIn_sub (fun _ h => List.mem_cons_of_mem _ (List.mem_append_right _ h)) (by decide +kernel))
set_option maxRecDepth 20000 in
theorem gX5_carryOut_X5_endWeek : GoodIn wsX5_carryOut (wsV RX5 130 RX5 yX5_endWeek wsX5_endWeek) := goodIn_app (goodIn_of _ (by decide +kernel)) ggX5_carryOut_X5_endWeek
theorem dX5_carryOut_0 : decode cX5_carryOut 0 = .ok (.iload_n 1, 1) := by decide +kernel
theorem dX5_carryOut_1 : decode cX5_carryOut 1 = .ok (.tableswitch 157 98 116 #[100, 157, 157, 157, 157, 157, 128, 122, 157, 157, 157, 91, 157, 136, 157, 157, 151, 145, 109], 91) := by decide +kernel
theorem dX5_carryOut_92 : decode cX5_carryOut 92 = .ok (.aload_n 0, 1) := by decide +kernel
theorem dX5_carryOut_93 : decode cX5_carryOut 93 = .ok (.iload_n 2, 1) := by decide +kernel
theorem dX5_carryOut_94 : decode cX5_carryOut 94 = .ok (.iload_n 3, 1) := by decide +kernel
theorem dX5_carryOut_95 : decode cX5_carryOut 95 = .ok (.iload 4, 2) := by decide +kernel
theorem dX5_carryOut_97 : decode cX5_carryOut 97 = .ok (.invokevirtual 102, 3) := by decide +kernel
theorem dX5_carryOut_100 : decode cX5_carryOut 100 = .ok (.ireturn, 1) := by decide +kernel
theorem dX5_carryOut_101 : decode cX5_carryOut 101 = .ok (.aload_n 0, 1) := by decide +kernel
theorem dX5_carryOut_102 : decode cX5_carryOut 102 = .ok (.iload_n 2, 1) := by decide +kernel
theorem dX5_carryOut_103 : decode cX5_carryOut 103 = .ok (.iconst (-1), 1) := by decide +kernel
theorem dX5_carryOut_104 : decode cX5_carryOut 104 = .ok (.iconst (-1), 1) := by decide +kernel
theorem dX5_carryOut_105 : decode cX5_carryOut 105 = .ok (.iconst (-1), 1) := by decide +kernel
theorem dX5_carryOut_106 : decode cX5_carryOut 106 = .ok (.invokevirtual 106, 3) := by decide +kernel
theorem dX5_carryOut_109 : decode cX5_carryOut 109 = .ok (.ireturn, 1) := by decide +kernel
theorem dX5_carryOut_110 : decode cX5_carryOut 110 = .ok (.aload_n 0, 1) := by decide +kernel
theorem dX5_carryOut_111 : decode cX5_carryOut 111 = .ok (.getfield 12, 3) := by decide +kernel
theorem dX5_carryOut_114 : decode cX5_carryOut 114 = .ok (.iload_n 2, 1) := by decide +kernel
theorem dX5_carryOut_115 : decode cX5_carryOut 115 = .ok (.aaload, 1) := by decide +kernel
theorem dX5_carryOut_116 : decode cX5_carryOut 116 = .ok (.iload_n 3, 1) := by decide +kernel
theorem dX5_carryOut_117 : decode cX5_carryOut 117 = .ok (.iload 4, 2) := by decide +kernel
theorem dX5_carryOut_119 : decode cX5_carryOut 119 = .ok (.invokestatic 110, 3) := by decide +kernel
theorem dX5_carryOut_122 : decode cX5_carryOut 122 = .ok (.ireturn, 1) := by decide +kernel
theorem dX5_carryOut_123 : decode cX5_carryOut 123 = .ok (.aload_n 0, 1) := by decide +kernel
theorem dX5_carryOut_124 : decode cX5_carryOut 124 = .ok (.iload_n 2, 1) := by decide +kernel
theorem dX5_carryOut_125 : decode cX5_carryOut 125 = .ok (.invokevirtual 114, 3) := by decide +kernel
theorem dX5_carryOut_128 : decode cX5_carryOut 128 = .ok (.ireturn, 1) := by decide +kernel
theorem dX5_carryOut_129 : decode cX5_carryOut 129 = .ok (.aload_n 0, 1) := by decide +kernel
theorem dX5_carryOut_130 : decode cX5_carryOut 130 = .ok (.getfield 28, 3) := by decide +kernel
theorem dX5_carryOut_133 : decode cX5_carryOut 133 = .ok (.invokevirtual 117, 3) := by decide +kernel
theorem dX5_carryOut_136 : decode cX5_carryOut 136 = .ok (.ireturn, 1) := by decide +kernel
theorem dX5_carryOut_137 : decode cX5_carryOut 137 = .ok (.aload_n 0, 1) := by decide +kernel
theorem dX5_carryOut_138 : decode cX5_carryOut 138 = .ok (.getfield 28, 3) := by decide +kernel
theorem dX5_carryOut_141 : decode cX5_carryOut 141 = .ok (.iload_n 2, 1) := by decide +kernel
theorem dX5_carryOut_142 : decode cX5_carryOut 142 = .ok (.invokevirtual 121, 3) := by decide +kernel
theorem dX5_carryOut_145 : decode cX5_carryOut 145 = .ok (.ireturn, 1) := by decide +kernel
theorem dX5_carryOut_146 : decode cX5_carryOut 146 = .ok (.aload_n 0, 1) := by decide +kernel
theorem dX5_carryOut_147 : decode cX5_carryOut 147 = .ok (.iload_n 2, 1) := by decide +kernel
theorem dX5_carryOut_148 : decode cX5_carryOut 148 = .ok (.invokevirtual 124, 3) := by decide +kernel
theorem dX5_carryOut_151 : decode cX5_carryOut 151 = .ok (.ireturn, 1) := by decide +kernel
theorem dX5_carryOut_152 : decode cX5_carryOut 152 = .ok (.aload_n 0, 1) := by decide +kernel
theorem dX5_carryOut_153 : decode cX5_carryOut 153 = .ok (.iload_n 2, 1) := by decide +kernel
theorem dX5_carryOut_154 : decode cX5_carryOut 154 = .ok (.invokevirtual 127, 3) := by decide +kernel
theorem dX5_carryOut_157 : decode cX5_carryOut 157 = .ok (.ireturn, 1) := by decide +kernel
theorem dX5_carryOut_158 : decode cX5_carryOut 158 = .ok (.aload_n 0, 1) := by decide +kernel
theorem dX5_carryOut_159 : decode cX5_carryOut 159 = .ok (.invokevirtual 130, 3) := by decide +kernel
theorem dX5_carryOut_162 : decode cX5_carryOut 162 = .ok (.ireturn, 1) := by decide +kernel
set_option maxRecDepth 20000 in
theorem ggX5_makeMonday_X5_addCarrier : GoodIn wsX5_makeMonday wsX5_addCarrier := goodIn_ca (goodIn_r _ [6, 7, 8, 9, 10, 11, 12, 13, 14, 15, 16, 17, 18, 19, 20, 21, 22, 23, 24, 25, 26, 27, 28, 29, 30, 31, 32, 33, 34, 35] (by decide +kernel) (by decide +kernel)) (goodIn_sub (fun _ h => List.mem_cons_of_mem _ (List.mem_append_right _ h)) (by decide +kernel))
set_option maxRecDepth 20000 in
theorem gX5_makeMonday_X5_addCarrier : GoodIn wsX5_makeMonday (wsV RX5 106 RX5 yX5_addCarrier wsX5_addCarrier) := goodIn_app (goodIn_of _ (by decide +kernel)) ggX5_makeMonday_X5_addCarrier
theorem dX5_makeMonday_0 : decode cX5_makeMonday 0 = .ok (.aload_n 0, 1) := by decide +kernel
theorem dX5_makeMonday_1 : decode cX5_makeMonday 1 = .ok (.dup, 1) := by decide +kernel
theorem dX5_makeMonday_2 : decode cX5_makeMonday 2 = .ok (.getfield 39, 3) := by decide +kernel
theorem dX5_makeMonday_5 : decode cX5_makeMonday 5 = .ok (.iconst 1, 1) := by decide +kernel
theorem dX5_makeMonday_6 : decode cX5_makeMonday 6 = .ok (.iadd, 1) := by decide +kernel
theorem dX5_makeMonday_7 : decode cX5_makeMonday 7 = .ok (.putfield 39, 3) := by decide +kernel
theorem dX5_makeMonday_10 : decode cX5_makeMonday 10 = .ok (.aload_n 0, 1) := by decide +kernel
theorem dX5_makeMonday_11 : decode cX5_makeMonday 11 = .ok (.iload_n 1, 1) := by decide +kernel
theorem dX5_makeMonday_12 : decode cX5_makeMonday 12 = .ok (.iload_n 2, 1) := by decide +kernel
theorem dX5_makeMonday_13 : decode cX5_makeMonday 13 = .ok (.iload_n 3, 1) := by decide +kernel
theorem dX5_makeMonday_14 : decode cX5_makeMonday 14 = .ok (.iconst 0, 1) := by decide +kernel
theorem dX5_makeMonday_15 : decode cX5_makeMonday 15 = .ok (.invokevirtual 106, 3) := by decide +kernel
theorem dX5_makeMonday_18 : decode cX5_makeMonday 18 = .ok (.ireturn, 1) := by decide +kernel
set_option maxRecDepth 20000 in
theorem ggX5_addCarrier_X6_add : GoodIn wsX5_addCarrier wsX6_add := goodIn_ca (goodIn_r _ [8, 9, 10, 28, 29] (by decide +kernel) (by decide +kernel)) (goodIn_sub (fun _ h => List.mem_cons_of_mem _ (List.mem_append_right _ h)) (by decide +kernel))
set_option maxRecDepth 20000 in
theorem gX5_addCarrier_X6_add : GoodIn wsX5_addCarrier (wsV RX5 133 RX6 yX6_add wsX6_add) := goodIn_app (goodIn_of _ (by decide +kernel)) ggX5_addCarrier_X6_add
theorem dX5_addCarrier_0 : decode cX5_addCarrier 0 = .ok (.aload_n 0, 1) := by decide +kernel
theorem dX5_addCarrier_1 : decode cX5_addCarrier 1 = .ok (.getfield 12, 3) := by decide +kernel
theorem dX5_addCarrier_4 : decode cX5_addCarrier 4 = .ok (.iload_n 1, 1) := by decide +kernel
theorem dX5_addCarrier_5 : decode cX5_addCarrier 5 = .ok (.aaload, 1) := by decide +kernel
theorem dX5_addCarrier_6 : decode cX5_addCarrier 6 = .ok (.getfield 98, 3) := by decide +kernel
theorem dX5_addCarrier_9 : decode cX5_addCarrier 9 = .ok (.astore 5, 2) := by decide +kernel
theorem dX5_addCarrier_11 : decode cX5_addCarrier 11 = .ok (.aload 5, 2) := by decide +kernel
theorem dX5_addCarrier_13 : decode cX5_addCarrier 13 = .ok (.iload_n 2, 1) := by decide +kernel
theorem dX5_addCarrier_14 : decode cX5_addCarrier 14 = .ok (.iload_n 3, 1) := by decide +kernel
theorem dX5_addCarrier_15 : decode cX5_addCarrier 15 = .ok (.iload 4, 2) := by decide +kernel
theorem dX5_addCarrier_17 : decode cX5_addCarrier 17 = .ok (.iconst 0, 1) := by decide +kernel
theorem dX5_addCarrier_18 : decode cX5_addCarrier 18 = .ok (.invokevirtual 133, 3) := by decide +kernel
theorem dX5_addCarrier_21 : decode cX5_addCarrier 21 = .ok (.aload 5, 2) := by decide +kernel
theorem dX5_addCarrier_23 : decode cX5_addCarrier 23 = .ok (.getfield 101, 3) := by decide +kernel
theorem dX5_addCarrier_26 : decode cX5_addCarrier 26 = .ok (.ireturn, 1) := by decide +kernel
theorem dX5_tellBelt_0 : decode cX5_tellBelt 0 = .ok (.aload_n 0, 1) := by decide +kernel
theorem dX5_tellBelt_1 : decode cX5_tellBelt 1 = .ok (.getfield 92, 3) := by decide +kernel
theorem dX5_tellBelt_4 : decode cX5_tellBelt 4 = .ok (.istore_n 3, 1) := by decide +kernel
theorem dX5_tellBelt_5 : decode cX5_tellBelt 5 = .ok (.aload_n 0, 1) := by decide +kernel
theorem dX5_tellBelt_6 : decode cX5_tellBelt 6 = .ok (.iload_n 1, 1) := by decide +kernel
theorem dX5_tellBelt_7 : decode cX5_tellBelt 7 = .ok (.putfield 92, 3) := by decide +kernel
theorem dX5_tellBelt_10 : decode cX5_tellBelt 10 = .ok (.aload_n 0, 1) := by decide +kernel
theorem dX5_tellBelt_11 : decode cX5_tellBelt 11 = .ok (.iload_n 2, 1) := by decide +kernel
theorem dX5_tellBelt_12 : decode cX5_tellBelt 12 = .ok (.putfield 95, 3) := by decide +kernel
theorem dX5_tellBelt_15 : decode cX5_tellBelt 15 = .ok (.iload_n 3, 1) := by decide +kernel
theorem dX5_tellBelt_16 : decode cX5_tellBelt 16 = .ok (.ireturn, 1) := by decide +kernel
set_option maxRecDepth 20000 in
theorem ggX5_inspectFront_X1_freshAt : GoodIn wsX5_inspectFront wsX1_freshAt := goodIn_ca (goodIn_r _ [8, 9, 10, 11, 12, 7, 13, 14, 113, 114] (by decide +kernel) (by decide +kernel)) (goodIn_sub (fun _ h => List.mem_cons_of_mem _ (List.mem_append_right _ h)) (by decide +kernel))
set_option maxRecDepth 20000 in
theorem gX5_inspectFront_X1_freshAt : GoodIn wsX5_inspectFront (wsV RX5 137 RX1 yX1_freshAt wsX1_freshAt) := goodIn_app (goodIn_of _ (by decide +kernel)) ggX5_inspectFront_X1_freshAt
set_option maxRecDepth 20000 in
theorem ggX5_inspectFront_X6_isBlank : GoodIn wsX5_inspectFront wsX6_isBlank := goodIn_ca (goodIn_r _ [19, 20, 21, 22, 18, 23, 24, 25, 115, 116] (by decide +kernel) (by decide +kernel)) (goodIn_sub (fun _ h => List.mem_cons_of_mem _ (List.mem_append_right _ h)) (by decide +kernel))
set_option maxRecDepth 20000 in
theorem gX5_inspectFront_X6_isBlank : GoodIn wsX5_inspectFront (wsV RX5 140 RX6 yX6_isBlank wsX6_isBlank) := goodIn_app (goodIn_of _ (by decide +kernel)) ggX5_inspectFront_X6_isBlank
set_option maxRecDepth 20000 in
theorem ggX5_inspectFront_X1_addYawns : GoodIn wsX5_inspectFront wsX1_addYawns := goodIn_ca (goodIn_r _ [29, 14, 30, 31, 32, 33, 34, 35, 36, 37, 38, 39, 7, 40, 9, 113, 114] (by decide +kernel) (by decide +kernel)) (goodIn_sub (fun _ h => List.mem_cons_of_mem _ (List.mem_append_right _ h)) (by decide +kernel))
set_option maxRecDepth 20000 in
theorem gX5_inspectFront_X1_addYawns : GoodIn wsX5_inspectFront (wsV RX5 143 RX1 yX1_addYawns wsX1_addYawns) := goodIn_app (goodIn_of _ (by decide +kernel)) ggX5_inspectFront_X1_addYawns
set_option maxRecDepth 20000 in
theorem ggX5_inspectFront_X5_inspectMonday : GoodIn wsX5_inspectFront wsX5_inspectMonday := goodIn_ca (goodIn_r _ [45, 3, 2, 46, 47, 48, 49, 50, 51, 18, 52, 20, 21, 22, 23, 24, 25, 53, 54, 55, 56, 57, 58, 59, 7, 60, 14, 37, 38, 39, 40, 9, 61, 62, 44, 63, 64, 65, 66, 67, 68, 69, 70, 71, 72, 73, 74, 26, 27, 28, 29, 30, 31, 32, 33, 34, 35, 36, 75, 76, 77, 78, 79, 80, 81, 82, 83, 84, 85, 86, 87, 107, 108, 109, 110, 111, 112, 96, 97, 98, 99, 100, 101, 102, 103, 104, 105, 106, 115, 116, 113, 114] (by decide +kernel) (by decide +kernel)) (goodIn_sub (fun _ h => List.mem_cons_of_mem _ (List.mem_append_right _ h)) (by decide +kernel))
set_option maxRecDepth 20000 in
theorem gX5_inspectFront_X5_inspectMonday : GoodIn wsX5_inspectFront (wsV RX5 147 RX5 yX5_inspectMonday wsX5_inspectMonday) := goodIn_app (goodIn_of _ (by decide +kernel)) ggX5_inspectFront_X5_inspectMonday
set_option maxRecDepth 20000 in
theorem ggX5_inspectFront_X6_cut : GoodIn wsX5_inspectFront wsX6_cut := goodIn_r _ [91, 24, 25, 92, 93, 94, 95, 115, 116] (by decide +kernel) (by decide +kernel)
set_option maxRecDepth 20000 in
theorem gX5_inspectFront_X6_cut : GoodIn wsX5_inspectFront (wsV RX5 151 RX6 yX6_cut wsX6_cut) := goodIn_app (goodIn_of _ (by decide +kernel)) ggX5_inspectFront_X6_cut
theorem dX5_inspectFront_0 : decode cX5_inspectFront 0 = .ok (.aload_n 0, 1) := by decide +kernel
theorem dX5_inspectFront_1 : decode cX5_inspectFront 1 = .ok (.getfield 12, 3) := by decide +kernel
theorem dX5_inspectFront_4 : decode cX5_inspectFront 4 = .ok (.iload_n 1, 1) := by decide +kernel
theorem dX5_inspectFront_5 : decode cX5_inspectFront 5 = .ok (.aaload, 1) := by decide +kernel
theorem dX5_inspectFront_6 : decode cX5_inspectFront 6 = .ok (.astore_n 2, 1) := by decide +kernel
theorem dX5_inspectFront_7 : decode cX5_inspectFront 7 = .ok (.aload_n 0, 1) := by decide +kernel
theorem dX5_inspectFront_8 : decode cX5_inspectFront 8 = .ok (.getfield 28, 3) := by decide +kernel
theorem dX5_inspectFront_11 : decode cX5_inspectFront 11 = .ok (.iconst 0, 1) := by decide +kernel
theorem dX5_inspectFront_12 : decode cX5_inspectFront 12 = .ok (.invokevirtual 137, 3) := by decide +kernel
theorem dX5_inspectFront_15 : decode cX5_inspectFront 15 = .ok (.istore_n 3, 1) := by decide +kernel
theorem dX5_inspectFront_16 : decode cX5_inspectFront 16 = .ok (.iconst 0, 1) := by decide +kernel
theorem dX5_inspectFront_17 : decode cX5_inspectFront 17 = .ok (.istore 4, 2) := by decide +kernel
theorem dX5_inspectFront_19 : decode cX5_inspectFront 19 = .ok (.aload_n 2, 1) := by decide +kernel
theorem dX5_inspectFront_20 : decode cX5_inspectFront 20 = .ok (.getfield 98, 3) := by decide +kernel
theorem dX5_inspectFront_23 : decode cX5_inspectFront 23 = .ok (.iconst 0, 1) := by decide +kernel
theorem dX5_inspectFront_24 : decode cX5_inspectFront 24 = .ok (.invokevirtual 140, 3) := by decide +kernel
theorem dX5_inspectFront_27 : decode cX5_inspectFront 27 = .ok (.ifCond .eq 15, 3) := by decide +kernel
theorem dX5_inspectFront_30 : decode cX5_inspectFront 30 = .ok (.aload_n 0, 1) := by decide +kernel
theorem dX5_inspectFront_31 : decode cX5_inspectFront 31 = .ok (.getfield 28, 3) := by decide +kernel
theorem dX5_inspectFront_34 : decode cX5_inspectFront 34 = .ok (.iload_n 3, 1) := by decide +kernel
theorem dX5_inspectFront_35 : decode cX5_inspectFront 35 = .ok (.iconst (-1), 1) := by decide +kernel
theorem dX5_inspectFront_36 : decode cX5_inspectFront 36 = .ok (.invokevirtual 143, 3) := by decide +kernel
theorem dX5_inspectFront_39 : decode cX5_inspectFront 39 = .ok (.goto 11, 3) := by decide +kernel
theorem dX5_inspectFront_42 : decode cX5_inspectFront 42 = .ok (.aload_n 0, 1) := by decide +kernel
theorem dX5_inspectFront_43 : decode cX5_inspectFront 43 = .ok (.aload_n 2, 1) := by decide +kernel
theorem dX5_inspectFront_44 : decode cX5_inspectFront 44 = .ok (.iload_n 3, 1) := by decide +kernel
theorem dX5_inspectFront_45 : decode cX5_inspectFront 45 = .ok (.invokevirtual 147, 3) := by decide +kernel
theorem dX5_inspectFront_48 : decode cX5_inspectFront 48 = .ok (.istore 4, 2) := by decide +kernel
theorem dX5_inspectFront_50 : decode cX5_inspectFront 50 = .ok (.aload_n 2, 1) := by decide +kernel
theorem dX5_inspectFront_51 : decode cX5_inspectFront 51 = .ok (.getfield 98, 3) := by decide +kernel
theorem dX5_inspectFront_54 : decode cX5_inspectFront 54 = .ok (.iconst 0, 1) := by decide +kernel
theorem dX5_inspectFront_55 : decode cX5_inspectFront 55 = .ok (.iconst 1, 1) := by decide +kernel
theorem dX5_inspectFront_56 : decode cX5_inspectFront 56 = .ok (.invokevirtual 151, 3) := by decide +kernel
theorem dX5_inspectFront_59 : decode cX5_inspectFront 59 = .ok (.iload 4, 2) := by decide +kernel
theorem dX5_inspectFront_61 : decode cX5_inspectFront 61 = .ok (.ireturn, 1) := by decide +kernel
set_option maxRecDepth 20000 in
theorem ggX5_inspectMonday_X6_grey : GoodIn wsX5_inspectMonday wsX6_grey := goodIn_ca (goodIn_r _ [10, 11, 12, 13, 9, 14, 15, 16, 88, 89] (by decide +kernel) (by decide +kernel)) (goodIn_sub (fun _ h => List.mem_cons_of_mem _ (List.mem_append_right _ h)) (by decide +kernel))
set_option maxRecDepth 20000 in
theorem gX5_inspectMonday_X6_grey : GoodIn wsX5_inspectMonday (wsV RX5 154 RX6 yX6_grey wsX6_grey) := goodIn_app (goodIn_of _ (by decide +kernel)) ggX5_inspectMonday_X6_grey
set_option maxRecDepth 20000 in
theorem ggX5_inspectMonday_X6_alarm : GoodIn wsX5_inspectMonday wsX6_alarm := goodIn_ca (goodIn_r _ [20, 11, 12, 13, 9, 14, 15, 16, 88, 89] (by decide +kernel) (by decide +kernel)) (goodIn_sub (fun _ h => List.mem_cons_of_mem _ (List.mem_append_right _ h)) (by decide +kernel))
set_option maxRecDepth 20000 in
theorem gX5_inspectMonday_X6_alarm : GoodIn wsX5_inspectMonday (wsV RX5 157 RX6 yX6_alarm wsX6_alarm) := goodIn_app (goodIn_of _ (by decide +kernel)) ggX5_inspectMonday_X6_alarm
set_option maxRecDepth 20000 in
theorem ggX5_inspectMonday_X1_yawned : GoodIn wsX5_inspectMonday wsX1_yawned := goodIn_ca (goodIn_r _ [25, 26, 27, 28, 29, 24, 30, 31, 90, 91] (by decide +kernel) (by decide +kernel)) (goodIn_sub (fun _ h => List.mem_cons_of_mem _ (List.mem_append_right _ h)) (by decide +kernel))
set_option maxRecDepth 20000 in
theorem gX5_inspectMonday_X1_yawned : GoodIn wsX5_inspectMonday (wsV RX5 160 RX1 yX1_yawned wsX1_yawned) := goodIn_app (goodIn_of _ (by decide +kernel)) ggX5_inspectMonday_X1_yawned
set_option maxRecDepth 20000 in
theorem ggX5_inspectMonday_X5_firstFailed : GoodIn wsX5_inspectMonday wsX5_firstFailed := goodIn_r _ [35, 36, 37, 38, 39, 40, 41, 42, 43, 44, 45, 24, 46, 71, 72, 73, 74, 75, 76] (by decide +kernel) (by decide +kernel)
set_option maxRecDepth 20000 in
theorem gX5_inspectMonday_X5_firstFailed : GoodIn wsX5_inspectMonday (va_wsS RX5 163 yX5_firstFailed wsX5_firstFailed) := goodIn_app (goodIn_of _ (by decide +kernel)) ggX5_inspectMonday_X5_firstFailed
set_option maxRecDepth 20000 in
theorem ggX5_inspectMonday_X1_addYawns : GoodIn wsX5_inspectMonday wsX1_addYawns := goodIn_ca (goodIn_r _ [50, 26, 51, 52, 53, 54, 55, 56, 57, 27, 28, 29, 24, 30, 31, 90, 91] (by decide +kernel) (by decide +kernel)) (goodIn_sub (fun _ h => List.mem_cons_of_mem _ (List.mem_append_right _ h)) (by decide +kernel))
set_option maxRecDepth 20000 in
theorem gX5_inspectMonday_X1_addYawns : GoodIn wsX5_inspectMonday (wsV RX5 143 RX1 yX1_addYawns wsX1_addYawns) := goodIn_app (goodIn_of _ (by decide +kernel)) ggX5_inspectMonday_X1_addYawns
set_option maxRecDepth 20000 in
theorem ggX5_inspectMonday_X5_reject : GoodIn wsX5_inspectMonday wsX5_reject := goodIn_ca (goodIn_r _ [61, 62, 63, 64, 65, 66, 12, 13, 9, 14, 15, 16, 67, 68, 69, 70, 77, 78, 79, 80, 81, 82, 83, 84, 85, 86, 87, 88, 89] (by decide +kernel) (by decide +kernel)) (goodIn_sub (fun _ h => List.mem_cons_of_mem _ (List.mem_append_right _ h)) (by decide +kernel))
set_option maxRecDepth 20000 in
theorem gX5_inspectMonday_X5_reject : GoodIn wsX5_inspectMonday (wsV RX5 176 RX5 yX5_reject wsX5_reject) := goodIn_app (goodIn_of _ (by decide +kernel)) ggX5_inspectMonday_X5_reject
theorem dX5_inspectMonday_0 : decode cX5_inspectMonday 0 = .ok (.aload_n 1, 1) := by decide +kernel
theorem dX5_inspectMonday_1 : decode cX5_inspectMonday 1 = .ok (.getfield 98, 3) := by decide +kernel
theorem dX5_inspectMonday_4 : decode cX5_inspectMonday 4 = .ok (.iconst 0, 1) := by decide +kernel
theorem dX5_inspectMonday_5 : decode cX5_inspectMonday 5 = .ok (.invokevirtual 154, 3) := by decide +kernel
theorem dX5_inspectMonday_8 : decode cX5_inspectMonday 8 = .ok (.istore_n 3, 1) := by decide +kernel
theorem dX5_inspectMonday_9 : decode cX5_inspectMonday 9 = .ok (.aload_n 1, 1) := by decide +kernel
theorem dX5_inspectMonday_10 : decode cX5_inspectMonday 10 = .ok (.iload_n 3, 1) := by decide +kernel
theorem dX5_inspectMonday_11 : decode cX5_inspectMonday 11 = .ok (.aload_n 1, 1) := by decide +kernel
theorem dX5_inspectMonday_12 : decode cX5_inspectMonday 12 = .ok (.getfield 98, 3) := by decide +kernel
theorem dX5_inspectMonday_15 : decode cX5_inspectMonday 15 = .ok (.iconst 0, 1) := by decide +kernel
theorem dX5_inspectMonday_16 : decode cX5_inspectMonday 16 = .ok (.invokevirtual 157, 3) := by decide +kernel
theorem dX5_inspectMonday_19 : decode cX5_inspectMonday 19 = .ok (.aload_n 0, 1) := by decide +kernel
theorem dX5_inspectMonday_20 : decode cX5_inspectMonday 20 = .ok (.getfield 28, 3) := by decide +kernel
theorem dX5_inspectMonday_23 : decode cX5_inspectMonday 23 = .ok (.iload_n 2, 1) := by decide +kernel
theorem dX5_inspectMonday_24 : decode cX5_inspectMonday 24 = .ok (.invokevirtual 160, 3) := by decide +kernel
theorem dX5_inspectMonday_27 : decode cX5_inspectMonday 27 = .ok (.invokestatic 163, 3) := by decide +kernel
theorem dX5_inspectMonday_30 : decode cX5_inspectMonday 30 = .ok (.istore 4, 2) := by decide +kernel
theorem dX5_inspectMonday_32 : decode cX5_inspectMonday 32 = .ok (.aload_n 0, 1) := by decide +kernel
theorem dX5_inspectMonday_33 : decode cX5_inspectMonday 33 = .ok (.getfield 28, 3) := by decide +kernel
theorem dX5_inspectMonday_36 : decode cX5_inspectMonday 36 = .ok (.iload_n 2, 1) := by decide +kernel
theorem dX5_inspectMonday_37 : decode cX5_inspectMonday 37 = .ok (.iload_n 3, 1) := by decide +kernel
theorem dX5_inspectMonday_38 : decode cX5_inspectMonday 38 = .ok (.bipush 8, 2) := by decide +kernel
theorem dX5_inspectMonday_40 : decode cX5_inspectMonday 40 = .ok (.if_icmp .lt 7, 3) := by decide +kernel
theorem dX5_inspectMonday_43 : decode cX5_inspectMonday 43 = .ok (.iconst 2, 1) := by decide +kernel
theorem dX5_inspectMonday_44 : decode cX5_inspectMonday 44 = .ok (.goto 4, 3) := by decide +kernel
theorem dX5_inspectMonday_47 : decode cX5_inspectMonday 47 = .ok (.iconst 1, 1) := by decide +kernel
theorem dX5_inspectMonday_48 : decode cX5_inspectMonday 48 = .ok (.invokevirtual 143, 3) := by decide +kernel
theorem dX5_inspectMonday_51 : decode cX5_inspectMonday 51 = .ok (.aload_n 1, 1) := by decide +kernel
theorem dX5_inspectMonday_52 : decode cX5_inspectMonday 52 = .ok (.iload_n 3, 1) := by decide +kernel
theorem dX5_inspectMonday_53 : decode cX5_inspectMonday 53 = .ok (.putfield 167, 3) := by decide +kernel
theorem dX5_inspectMonday_56 : decode cX5_inspectMonday 56 = .ok (.aload_n 1, 1) := by decide +kernel
theorem dX5_inspectMonday_57 : decode cX5_inspectMonday 57 = .ok (.dup, 1) := by decide +kernel
theorem dX5_inspectMonday_58 : decode cX5_inspectMonday 58 = .ok (.getfield 170, 3) := by decide +kernel
theorem dX5_inspectMonday_61 : decode cX5_inspectMonday 61 = .ok (.iconst 1, 1) := by decide +kernel
theorem dX5_inspectMonday_62 : decode cX5_inspectMonday 62 = .ok (.iadd, 1) := by decide +kernel
theorem dX5_inspectMonday_63 : decode cX5_inspectMonday 63 = .ok (.putfield 170, 3) := by decide +kernel
theorem dX5_inspectMonday_66 : decode cX5_inspectMonday 66 = .ok (.iload 4, 2) := by decide +kernel
theorem dX5_inspectMonday_68 : decode cX5_inspectMonday 68 = .ok (.ifCond .ne 16, 3) := by decide +kernel
theorem dX5_inspectMonday_71 : decode cX5_inspectMonday 71 = .ok (.aload_n 1, 1) := by decide +kernel
theorem dX5_inspectMonday_72 : decode cX5_inspectMonday 72 = .ok (.dup, 1) := by decide +kernel
theorem dX5_inspectMonday_73 : decode cX5_inspectMonday 73 = .ok (.getfield 173, 3) := by decide +kernel
theorem dX5_inspectMonday_76 : decode cX5_inspectMonday 76 = .ok (.iconst 1, 1) := by decide +kernel
theorem dX5_inspectMonday_77 : decode cX5_inspectMonday 77 = .ok (.iadd, 1) := by decide +kernel
theorem dX5_inspectMonday_78 : decode cX5_inspectMonday 78 = .ok (.putfield 173, 3) := by decide +kernel
theorem dX5_inspectMonday_81 : decode cX5_inspectMonday 81 = .ok (.goto 13, 3) := by decide +kernel
theorem dX5_inspectMonday_84 : decode cX5_inspectMonday 84 = .ok (.aload_n 0, 1) := by decide +kernel
theorem dX5_inspectMonday_85 : decode cX5_inspectMonday 85 = .ok (.aload_n 1, 1) := by decide +kernel
theorem dX5_inspectMonday_86 : decode cX5_inspectMonday 86 = .ok (.getfield 98, 3) := by decide +kernel
theorem dX5_inspectMonday_89 : decode cX5_inspectMonday 89 = .ok (.iload 4, 2) := by decide +kernel
theorem dX5_inspectMonday_91 : decode cX5_inspectMonday 91 = .ok (.invokevirtual 176, 3) := by decide +kernel
theorem dX5_inspectMonday_94 : decode cX5_inspectMonday 94 = .ok (.iload 4, 2) := by decide +kernel
theorem dX5_inspectMonday_96 : decode cX5_inspectMonday 96 = .ok (.ireturn, 1) := by decide +kernel
set_option maxRecDepth 20000 in
theorem ggX5_firstFailed_X0_isPassedBy : GoodIn wsX5_firstFailed wsX0_isPassedBy := goodIn_r _ [5, 6, 7, 8, 13, 14, 15, 16, 17, 18] (by decide +kernel) (by decide +kernel)
set_option maxRecDepth 20000 in
theorem gX5_firstFailed_X0_isPassedBy : GoodIn wsX5_firstFailed (wsV RX5 180 RX0 yX0_isPassedBy wsX0_isPassedBy) := goodIn_app (goodIn_of _ (by decide +kernel)) ggX5_firstFailed_X0_isPassedBy
set_option maxRecDepth 20000 in
theorem ggX5_firstFailed_X1_isLeftOut : GoodIn wsX5_firstFailed wsX1_isLeftOut := goodIn_r _ [12] (by decide +kernel) (by decide +kernel)
set_option maxRecDepth 20000 in
theorem gX5_firstFailed_X1_isLeftOut : GoodIn wsX5_firstFailed (va_wsS RX5 184 yX1_isLeftOut wsX1_isLeftOut) := goodIn_app (goodIn_of _ (by decide +kernel)) ggX5_firstFailed_X1_isLeftOut
theorem dX5_firstFailed_0 : decode cX5_firstFailed 0 = .ok (.iconst 1, 1) := by decide +kernel
theorem dX5_firstFailed_1 : decode cX5_firstFailed 1 = .ok (.istore 4, 2) := by decide +kernel
theorem dX5_firstFailed_3 : decode cX5_firstFailed 3 = .ok (.iload 4, 2) := by decide +kernel
theorem dX5_firstFailed_5 : decode cX5_firstFailed 5 = .ok (.iconst 3, 1) := by decide +kernel
theorem dX5_firstFailed_6 : decode cX5_firstFailed 6 = .ok (.if_icmp .gt 32, 3) := by decide +kernel
theorem dX5_firstFailed_9 : decode cX5_firstFailed 9 = .ok (.aload_n 0, 1) := by decide +kernel
theorem dX5_firstFailed_10 : decode cX5_firstFailed 10 = .ok (.iload_n 1, 1) := by decide +kernel
theorem dX5_firstFailed_11 : decode cX5_firstFailed 11 = .ok (.iload_n 2, 1) := by decide +kernel
theorem dX5_firstFailed_12 : decode cX5_firstFailed 12 = .ok (.iload 4, 2) := by decide +kernel
theorem dX5_firstFailed_14 : decode cX5_firstFailed 14 = .ok (.invokevirtual 180, 3) := by decide +kernel
theorem dX5_firstFailed_17 : decode cX5_firstFailed 17 = .ok (.ifCond .ne 15, 3) := by decide +kernel
theorem dX5_firstFailed_20 : decode cX5_firstFailed 20 = .ok (.iload 4, 2) := by decide +kernel
theorem dX5_firstFailed_22 : decode cX5_firstFailed 22 = .ok (.iload_n 3, 1) := by decide +kernel
theorem dX5_firstFailed_23 : decode cX5_firstFailed 23 = .ok (.invokestatic 184, 3) := by decide +kernel
theorem dX5_firstFailed_26 : decode cX5_firstFailed 26 = .ok (.ifCond .ne 6, 3) := by decide +kernel
theorem dX5_firstFailed_29 : decode cX5_firstFailed 29 = .ok (.iload 4, 2) := by decide +kernel
theorem dX5_firstFailed_31 : decode cX5_firstFailed 31 = .ok (.ireturn, 1) := by decide +kernel
theorem dX5_firstFailed_32 : decode cX5_firstFailed 32 = .ok (.iinc 4 1, 3) := by decide +kernel
theorem dX5_firstFailed_35 : decode cX5_firstFailed 35 = .ok (.goto (-32), 3) := by decide +kernel
theorem dX5_firstFailed_38 : decode cX5_firstFailed 38 = .ok (.iconst 0, 1) := by decide +kernel
theorem dX5_firstFailed_39 : decode cX5_firstFailed 39 = .ok (.ireturn, 1) := by decide +kernel
set_option maxRecDepth 20000 in
theorem ggX5_reject_X6_number : GoodIn wsX5_reject wsX6_number := goodIn_ca (goodIn_r _ [9, 10, 11, 27, 28] (by decide +kernel) (by decide +kernel)) (goodIn_sub (fun _ h => List.mem_cons_of_mem _ (List.mem_append_right _ h)) (by decide +kernel))
set_option maxRecDepth 20000 in
theorem gX5_reject_X6_number : GoodIn wsX5_reject (wsV RX5 188 RX6 yX6_number wsX6_number) := goodIn_app (goodIn_of _ (by decide +kernel)) ggX5_reject_X6_number
set_option maxRecDepth 20000 in
theorem ggX5_reject_X6_add : GoodIn wsX5_reject wsX6_add := goodIn_ca (goodIn_r _ [15, 10, 11, 27, 28] (by decide +kernel) (by decide +kernel)) (goodIn_sub (fun _ h => List.mem_cons_of_mem _ (List.mem_append_right _ h)) (by decide +kernel))
set_option maxRecDepth 20000 in
theorem gX5_reject_X6_add : GoodIn wsX5_reject (wsV RX5 133 RX6 yX6_add wsX6_add) := goodIn_app (goodIn_of _ (by decide +kernel)) ggX5_reject_X6_add
theorem dX5_reject_0 : decode cX5_reject 0 = .ok (.aload_n 0, 1) := by decide +kernel
theorem dX5_reject_1 : decode cX5_reject 1 = .ok (.dup, 1) := by decide +kernel
theorem dX5_reject_2 : decode cX5_reject 2 = .ok (.getfield 42, 3) := by decide +kernel
theorem dX5_reject_5 : decode cX5_reject 5 = .ok (.iconst 1, 1) := by decide +kernel
theorem dX5_reject_6 : decode cX5_reject 6 = .ok (.iadd, 1) := by decide +kernel
theorem dX5_reject_7 : decode cX5_reject 7 = .ok (.putfield 42, 3) := by decide +kernel
theorem dX5_reject_10 : decode cX5_reject 10 = .ok (.aload_n 0, 1) := by decide +kernel
theorem dX5_reject_11 : decode cX5_reject 11 = .ok (.getfield 21, 3) := by decide +kernel
theorem dX5_reject_14 : decode cX5_reject 14 = .ok (.getfield 101, 3) := by decide +kernel
theorem dX5_reject_17 : decode cX5_reject 17 = .ok (.bipush 8, 2) := by decide +kernel
theorem dX5_reject_19 : decode cX5_reject 19 = .ok (.if_icmp .ge 32, 3) := by decide +kernel
theorem dX5_reject_22 : decode cX5_reject 22 = .ok (.aload_n 0, 1) := by decide +kernel
theorem dX5_reject_23 : decode cX5_reject 23 = .ok (.getfield 21, 3) := by decide +kernel
theorem dX5_reject_26 : decode cX5_reject 26 = .ok (.aload_n 1, 1) := by decide +kernel
theorem dX5_reject_27 : decode cX5_reject 27 = .ok (.iconst 0, 1) := by decide +kernel
theorem dX5_reject_28 : decode cX5_reject 28 = .ok (.iconst 0, 1) := by decide +kernel
theorem dX5_reject_29 : decode cX5_reject 29 = .ok (.invokevirtual 188, 3) := by decide +kernel
theorem dX5_reject_32 : decode cX5_reject 32 = .ok (.aload_n 1, 1) := by decide +kernel
theorem dX5_reject_33 : decode cX5_reject 33 = .ok (.iconst 0, 1) := by decide +kernel
theorem dX5_reject_34 : decode cX5_reject 34 = .ok (.iconst 1, 1) := by decide +kernel
theorem dX5_reject_35 : decode cX5_reject 35 = .ok (.invokevirtual 188, 3) := by decide +kernel
theorem dX5_reject_38 : decode cX5_reject 38 = .ok (.aload_n 1, 1) := by decide +kernel
theorem dX5_reject_39 : decode cX5_reject 39 = .ok (.iconst 0, 1) := by decide +kernel
theorem dX5_reject_40 : decode cX5_reject 40 = .ok (.iconst 2, 1) := by decide +kernel
theorem dX5_reject_41 : decode cX5_reject 41 = .ok (.invokevirtual 188, 3) := by decide +kernel
theorem dX5_reject_44 : decode cX5_reject 44 = .ok (.iload_n 2, 1) := by decide +kernel
theorem dX5_reject_45 : decode cX5_reject 45 = .ok (.invokevirtual 133, 3) := by decide +kernel
theorem dX5_reject_48 : decode cX5_reject 48 = .ok (.goto 13, 3) := by decide +kernel
theorem dX5_reject_51 : decode cX5_reject 51 = .ok (.aload_n 0, 1) := by decide +kernel
theorem dX5_reject_52 : decode cX5_reject 52 = .ok (.dup, 1) := by decide +kernel
theorem dX5_reject_53 : decode cX5_reject 53 = .ok (.getfield 45, 3) := by decide +kernel
theorem dX5_reject_56 : decode cX5_reject 56 = .ok (.iconst 1, 1) := by decide +kernel
theorem dX5_reject_57 : decode cX5_reject 57 = .ok (.iadd, 1) := by decide +kernel
theorem dX5_reject_58 : decode cX5_reject 58 = .ok (.putfield 45, 3) := by decide +kernel
theorem dX5_reject_61 : decode cX5_reject 61 = .ok (.return_, 1) := by decide +kernel
set_option maxRecDepth 20000 in
theorem ggX5_sellReject_X5_priceOf : GoodIn wsX5_sellReject wsX5_priceOf := goodIn_ca (goodIn_r _ [9, 4, 10, 11, 12, 13, 14, 15, 16, 8, 17, 1, 18, 19, 20, 21, 22, 23, 24, 33, 34, 35, 36, 37, 38, 39, 40, 41, 42, 43, 44, 45] (by decide +kernel) (by decide +kernel)) (goodIn_sub (fun _ h => List.mem_cons_of_mem _ (List.mem_append_right _ h)) (by decide +kernel))
set_option maxRecDepth 20000 in
theorem gX5_sellReject_X5_priceOf : GoodIn wsX5_sellReject (wsV RX5 192 RX5 yX5_priceOf wsX5_priceOf) := goodIn_app (goodIn_of _ (by decide +kernel)) ggX5_sellReject_X5_priceOf
set_option maxRecDepth 20000 in
theorem ggX5_sellReject_X6_cut : GoodIn wsX5_sellReject wsX6_cut := goodIn_r _ [28, 23, 24, 29, 30, 31, 32, 44, 45] (by decide +kernel) (by decide +kernel)
set_option maxRecDepth 20000 in
theorem gX5_sellReject_X6_cut : GoodIn wsX5_sellReject (wsV RX5 151 RX6 yX6_cut wsX6_cut) := goodIn_app (goodIn_of _ (by decide +kernel)) ggX5_sellReject_X6_cut
theorem dX5_sellReject_0 : decode cX5_sellReject 0 = .ok (.aload_n 0, 1) := by decide +kernel
theorem dX5_sellReject_1 : decode cX5_sellReject 1 = .ok (.iload_n 1, 1) := by decide +kernel
theorem dX5_sellReject_2 : decode cX5_sellReject 2 = .ok (.invokevirtual 192, 3) := by decide +kernel
theorem dX5_sellReject_5 : decode cX5_sellReject 5 = .ok (.istore_n 2, 1) := by decide +kernel
theorem dX5_sellReject_6 : decode cX5_sellReject 6 = .ok (.aload_n 0, 1) := by decide +kernel
theorem dX5_sellReject_7 : decode cX5_sellReject 7 = .ok (.getfield 21, 3) := by decide +kernel
theorem dX5_sellReject_10 : decode cX5_sellReject 10 = .ok (.iload_n 1, 1) := by decide +kernel
theorem dX5_sellReject_11 : decode cX5_sellReject 11 = .ok (.iconst 1, 1) := by decide +kernel
theorem dX5_sellReject_12 : decode cX5_sellReject 12 = .ok (.invokevirtual 151, 3) := by decide +kernel
theorem dX5_sellReject_15 : decode cX5_sellReject 15 = .ok (.aload_n 0, 1) := by decide +kernel
theorem dX5_sellReject_16 : decode cX5_sellReject 16 = .ok (.dup, 1) := by decide +kernel
theorem dX5_sellReject_17 : decode cX5_sellReject 17 = .ok (.getfield 32, 3) := by decide +kernel
theorem dX5_sellReject_20 : decode cX5_sellReject 20 = .ok (.iload_n 2, 1) := by decide +kernel
theorem dX5_sellReject_21 : decode cX5_sellReject 21 = .ok (.iadd, 1) := by decide +kernel
theorem dX5_sellReject_22 : decode cX5_sellReject 22 = .ok (.putfield 32, 3) := by decide +kernel
theorem dX5_sellReject_25 : decode cX5_sellReject 25 = .ok (.aload_n 0, 1) := by decide +kernel
theorem dX5_sellReject_26 : decode cX5_sellReject 26 = .ok (.dup, 1) := by decide +kernel
theorem dX5_sellReject_27 : decode cX5_sellReject 27 = .ok (.getfield 48, 3) := by decide +kernel
theorem dX5_sellReject_30 : decode cX5_sellReject 30 = .ok (.iconst 1, 1) := by decide +kernel
theorem dX5_sellReject_31 : decode cX5_sellReject 31 = .ok (.iadd, 1) := by decide +kernel
theorem dX5_sellReject_32 : decode cX5_sellReject 32 = .ok (.putfield 48, 3) := by decide +kernel
theorem dX5_sellReject_35 : decode cX5_sellReject 35 = .ok (.aload_n 0, 1) := by decide +kernel
theorem dX5_sellReject_36 : decode cX5_sellReject 36 = .ok (.dup, 1) := by decide +kernel
theorem dX5_sellReject_37 : decode cX5_sellReject 37 = .ok (.getfield 51, 3) := by decide +kernel
theorem dX5_sellReject_40 : decode cX5_sellReject 40 = .ok (.iconst 1, 1) := by decide +kernel
theorem dX5_sellReject_41 : decode cX5_sellReject 41 = .ok (.iadd, 1) := by decide +kernel
theorem dX5_sellReject_42 : decode cX5_sellReject 42 = .ok (.putfield 51, 3) := by decide +kernel
theorem dX5_sellReject_45 : decode cX5_sellReject 45 = .ok (.iload_n 2, 1) := by decide +kernel
theorem dX5_sellReject_46 : decode cX5_sellReject 46 = .ok (.ireturn, 1) := by decide +kernel
set_option maxRecDepth 20000 in
theorem ggX5_repairReject_X5_repairCost : GoodIn wsX5_repairReject wsX5_repairCost := goodIn_ca (goodIn_r _ [8, 1, 9, 10, 11, 12, 13, 14, 15, 59, 60, 61, 62, 63, 64, 65, 66, 67, 68, 69, 70, 71] (by decide +kernel) (by decide +kernel)) (goodIn_sub (fun _ h => List.mem_cons_of_mem _ (List.mem_append_right _ h)) (by decide +kernel))
set_option maxRecDepth 20000 in
theorem gX5_repairReject_X5_repairCost : GoodIn wsX5_repairReject (wsV RX5 89 RX5 yX5_repairCost wsX5_repairCost) := goodIn_app (goodIn_of _ (by decide +kernel)) ggX5_repairReject_X5_repairCost
set_option maxRecDepth 20000 in
theorem ggX5_repairReject_X5_repairedGrey : GoodIn wsX5_repairReject wsX5_repairedGrey := goodIn_ca (goodIn_r _ [19, 1, 20, 21, 22, 23, 24, 25, 26, 12, 27, 28, 10, 11, 13, 14, 15, 59, 60, 61, 62, 63, 64, 65, 66, 67, 68, 69, 70, 71] (by decide +kernel) (by decide +kernel)) (goodIn_sub (fun _ h => List.mem_cons_of_mem _ (List.mem_append_right _ h)) (by decide +kernel))
set_option maxRecDepth 20000 in
theorem gX5_repairReject_X5_repairedGrey : GoodIn wsX5_repairReject (wsV RX5 195 RX5 yX5_repairedGrey wsX5_repairedGrey) := goodIn_app (goodIn_of _ (by decide +kernel)) ggX5_repairReject_X5_repairedGrey
set_option maxRecDepth 20000 in
theorem ggX5_repairReject_X5_repairedAlarm : GoodIn wsX5_repairReject wsX5_repairedAlarm := goodIn_ca (goodIn_r _ [32, 1, 33, 34, 22, 35, 36, 37, 38, 12, 39, 28, 10, 11, 13, 14, 15, 59, 60, 61, 62, 63, 64, 65, 66, 67, 68, 69, 70, 71] (by decide +kernel) (by decide +kernel)) (goodIn_sub (fun _ h => List.mem_cons_of_mem _ (List.mem_append_right _ h)) (by decide +kernel))
set_option maxRecDepth 20000 in
theorem gX5_repairReject_X5_repairedAlarm : GoodIn wsX5_repairReject (wsV RX5 198 RX5 yX5_repairedAlarm wsX5_repairedAlarm) := goodIn_app (goodIn_of _ (by decide +kernel)) ggX5_repairReject_X5_repairedAlarm
set_option maxRecDepth 20000 in
theorem ggX5_repairReject_X6_number : GoodIn wsX5_repairReject wsX6_number := goodIn_ca (goodIn_r _ [13, 14, 15, 70, 71] (by decide +kernel) (by decide +kernel)) (goodIn_sub (fun _ h => List.mem_cons_of_mem _ (List.mem_append_right _ h)) (by decide +kernel))
set_option maxRecDepth 20000 in
theorem gX5_repairReject_X6_number : GoodIn wsX5_repairReject (wsV RX5 188 RX6 yX6_number wsX6_number) := goodIn_app (goodIn_of _ (by decide +kernel)) ggX5_repairReject_X6_number
set_option maxRecDepth 20000 in
theorem ggX5_repairReject_X5_addCarrier : GoodIn wsX5_repairReject wsX5_addCarrier := goodIn_ca (goodIn_r _ [43, 44, 45, 46, 47, 48, 49, 12, 50, 14, 15, 59, 60, 61, 62, 63, 64, 65, 66, 67, 68, 69, 72, 73, 74, 75, 76, 77, 70, 71] (by decide +kernel) (by decide +kernel)) (goodIn_sub (fun _ h => List.mem_cons_of_mem _ (List.mem_append_right _ h)) (by decide +kernel))
set_option maxRecDepth 20000 in
theorem gX5_repairReject_X5_addCarrier : GoodIn wsX5_repairReject (wsV RX5 106 RX5 yX5_addCarrier wsX5_addCarrier) := goodIn_app (goodIn_of _ (by decide +kernel)) ggX5_repairReject_X5_addCarrier
set_option maxRecDepth 20000 in
theorem ggX5_repairReject_X6_cut : GoodIn wsX5_repairReject wsX6_cut := goodIn_r _ [54, 14, 15, 55, 56, 57, 58, 70, 71] (by decide +kernel) (by decide +kernel)
set_option maxRecDepth 20000 in
theorem gX5_repairReject_X6_cut : GoodIn wsX5_repairReject (wsV RX5 151 RX6 yX6_cut wsX6_cut) := goodIn_app (goodIn_of _ (by decide +kernel)) ggX5_repairReject_X6_cut
theorem dX5_repairReject_0 : decode cX5_repairReject 0 = .ok (.aload_n 0, 1) := by decide +kernel
theorem dX5_repairReject_1 : decode cX5_repairReject 1 = .ok (.iload_n 1, 1) := by decide +kernel
theorem dX5_repairReject_2 : decode cX5_repairReject 2 = .ok (.invokevirtual 89, 3) := by decide +kernel
theorem dX5_repairReject_5 : decode cX5_repairReject 5 = .ok (.istore_n 2, 1) := by decide +kernel
theorem dX5_repairReject_6 : decode cX5_repairReject 6 = .ok (.aload_n 0, 1) := by decide +kernel
theorem dX5_repairReject_7 : decode cX5_repairReject 7 = .ok (.iconst 0, 1) := by decide +kernel
theorem dX5_repairReject_8 : decode cX5_repairReject 8 = .ok (.aload_n 0, 1) := by decide +kernel
theorem dX5_repairReject_9 : decode cX5_repairReject 9 = .ok (.iload_n 1, 1) := by decide +kernel
theorem dX5_repairReject_10 : decode cX5_repairReject 10 = .ok (.invokevirtual 195, 3) := by decide +kernel
theorem dX5_repairReject_13 : decode cX5_repairReject 13 = .ok (.aload_n 0, 1) := by decide +kernel
theorem dX5_repairReject_14 : decode cX5_repairReject 14 = .ok (.iload_n 1, 1) := by decide +kernel
theorem dX5_repairReject_15 : decode cX5_repairReject 15 = .ok (.invokevirtual 198, 3) := by decide +kernel
theorem dX5_repairReject_18 : decode cX5_repairReject 18 = .ok (.aload_n 0, 1) := by decide +kernel
theorem dX5_repairReject_19 : decode cX5_repairReject 19 = .ok (.getfield 21, 3) := by decide +kernel
theorem dX5_repairReject_22 : decode cX5_repairReject 22 = .ok (.iload_n 1, 1) := by decide +kernel
theorem dX5_repairReject_23 : decode cX5_repairReject 23 = .ok (.iconst 2, 1) := by decide +kernel
theorem dX5_repairReject_24 : decode cX5_repairReject 24 = .ok (.invokevirtual 188, 3) := by decide +kernel
theorem dX5_repairReject_27 : decode cX5_repairReject 27 = .ok (.iconst 1, 1) := by decide +kernel
theorem dX5_repairReject_28 : decode cX5_repairReject 28 = .ok (.iadd, 1) := by decide +kernel
theorem dX5_repairReject_29 : decode cX5_repairReject 29 = .ok (.invokevirtual 106, 3) := by decide +kernel
theorem dX5_repairReject_32 : decode cX5_repairReject 32 = .ok (.pop, 1) := by decide +kernel
theorem dX5_repairReject_33 : decode cX5_repairReject 33 = .ok (.aload_n 0, 1) := by decide +kernel
theorem dX5_repairReject_34 : decode cX5_repairReject 34 = .ok (.getfield 21, 3) := by decide +kernel
theorem dX5_repairReject_37 : decode cX5_repairReject 37 = .ok (.iload_n 1, 1) := by decide +kernel
theorem dX5_repairReject_38 : decode cX5_repairReject 38 = .ok (.iconst 1, 1) := by decide +kernel
theorem dX5_repairReject_39 : decode cX5_repairReject 39 = .ok (.invokevirtual 151, 3) := by decide +kernel
theorem dX5_repairReject_42 : decode cX5_repairReject 42 = .ok (.aload_n 0, 1) := by decide +kernel
theorem dX5_repairReject_43 : decode cX5_repairReject 43 = .ok (.dup, 1) := by decide +kernel
theorem dX5_repairReject_44 : decode cX5_repairReject 44 = .ok (.getfield 32, 3) := by decide +kernel
theorem dX5_repairReject_47 : decode cX5_repairReject 47 = .ok (.iload_n 2, 1) := by decide +kernel
theorem dX5_repairReject_48 : decode cX5_repairReject 48 = .ok (.isub, 1) := by decide +kernel
theorem dX5_repairReject_49 : decode cX5_repairReject 49 = .ok (.putfield 32, 3) := by decide +kernel
theorem dX5_repairReject_52 : decode cX5_repairReject 52 = .ok (.aload_n 0, 1) := by decide +kernel
theorem dX5_repairReject_53 : decode cX5_repairReject 53 = .ok (.dup, 1) := by decide +kernel
theorem dX5_repairReject_54 : decode cX5_repairReject 54 = .ok (.getfield 54, 3) := by decide +kernel
theorem dX5_repairReject_57 : decode cX5_repairReject 57 = .ok (.iconst 1, 1) := by decide +kernel
theorem dX5_repairReject_58 : decode cX5_repairReject 58 = .ok (.iadd, 1) := by decide +kernel
theorem dX5_repairReject_59 : decode cX5_repairReject 59 = .ok (.putfield 54, 3) := by decide +kernel
theorem dX5_repairReject_62 : decode cX5_repairReject 62 = .ok (.iload_n 2, 1) := by decide +kernel
theorem dX5_repairReject_63 : decode cX5_repairReject 63 = .ok (.ireturn, 1) := by decide +kernel
set_option maxRecDepth 20000 in
theorem ggX5_endWeek_X6_isBlank : GoodIn wsX5_endWeek wsX6_isBlank := goodIn_ca (goodIn_r _ [12, 13, 14, 15, 11, 16, 17, 18, 75, 76] (by decide +kernel) (by decide +kernel)) (goodIn_sub (fun _ h => List.mem_cons_of_mem _ (List.mem_append_right _ h)) (by decide +kernel))
set_option maxRecDepth 20000 in
theorem gX5_endWeek_X6_isBlank : GoodIn wsX5_endWeek (wsV RX5 140 RX6 yX6_isBlank wsX6_isBlank) := goodIn_app (goodIn_of _ (by decide +kernel)) ggX5_endWeek_X6_isBlank
set_option maxRecDepth 20000 in
theorem ggX5_endWeek_X6_cut : GoodIn wsX5_endWeek wsX6_cut := goodIn_r _ [22, 17, 18, 23, 24, 25, 26, 75, 76] (by decide +kernel) (by decide +kernel)
set_option maxRecDepth 20000 in
theorem gX5_endWeek_X6_cut : GoodIn wsX5_endWeek (wsV RX5 151 RX6 yX6_cut wsX6_cut) := goodIn_app (goodIn_of _ (by decide +kernel)) ggX5_endWeek_X6_cut
set_option maxRecDepth 20000 in
theorem ggX5_endWeek_X6_moveFrontTo : GoodIn wsX5_endWeek wsX6_moveFrontTo := goodIn_ca (goodIn_r _ [30, 17, 13, 14, 15, 11, 16, 18, 31, 32, 33, 34, 35, 20, 21, 22, 23, 24, 25, 26, 75, 76] (by decide +kernel) (by decide +kernel)) (goodIn_sub (fun _ h => List.mem_cons_of_mem _ (List.mem_append_right _ h)) (by decide +kernel))
set_option maxRecDepth 20000 in
theorem gX5_endWeek_X6_moveFrontTo : GoodIn wsX5_endWeek (wsV RX5 201 RX6 yX6_moveFrontTo wsX6_moveFrontTo) := goodIn_app (goodIn_of _ (by decide +kernel)) ggX5_endWeek_X6_moveFrontTo
set_option maxRecDepth 20000 in
theorem ggX5_endWeek_X1_addYawnsToAll : GoodIn wsX5_endWeek wsX1_addYawnsToAll := goodIn_ca (goodIn_r _ [40, 41, 42, 43, 44, 39, 45, 46, 47, 48, 49, 50, 51, 52, 53, 54, 55, 56, 57, 77, 78] (by decide +kernel) (by decide +kernel)) (goodIn_sub (fun _ h => List.mem_cons_of_mem _ (List.mem_append_right _ h)) (by decide +kernel))
set_option maxRecDepth 20000 in
theorem gX5_endWeek_X1_addYawnsToAll : GoodIn wsX5_endWeek (wsV RX5 204 RX1 yX1_addYawnsToAll wsX1_addYawnsToAll) := goodIn_app (goodIn_of _ (by decide +kernel)) ggX5_endWeek_X1_addYawnsToAll
theorem dX5_endWeek_0 : decode cX5_endWeek 0 = .ok (.aload_n 0, 1) := by decide +kernel
theorem dX5_endWeek_1 : decode cX5_endWeek 1 = .ok (.getfield 12, 3) := by decide +kernel
theorem dX5_endWeek_4 : decode cX5_endWeek 4 = .ok (.iconst 2, 1) := by decide +kernel
theorem dX5_endWeek_5 : decode cX5_endWeek 5 = .ok (.aaload, 1) := by decide +kernel
theorem dX5_endWeek_6 : decode cX5_endWeek 6 = .ok (.getfield 98, 3) := by decide +kernel
theorem dX5_endWeek_9 : decode cX5_endWeek 9 = .ok (.astore_n 1, 1) := by decide +kernel
theorem dX5_endWeek_10 : decode cX5_endWeek 10 = .ok (.aload_n 1, 1) := by decide +kernel
theorem dX5_endWeek_11 : decode cX5_endWeek 11 = .ok (.getfield 101, 3) := by decide +kernel
theorem dX5_endWeek_14 : decode cX5_endWeek 14 = .ok (.ifCond .le 15, 3) := by decide +kernel
theorem dX5_endWeek_17 : decode cX5_endWeek 17 = .ok (.aload_n 1, 1) := by decide +kernel
theorem dX5_endWeek_18 : decode cX5_endWeek 18 = .ok (.iconst 0, 1) := by decide +kernel
theorem dX5_endWeek_19 : decode cX5_endWeek 19 = .ok (.invokevirtual 140, 3) := by decide +kernel
theorem dX5_endWeek_22 : decode cX5_endWeek 22 = .ok (.ifCond .ne 7, 3) := by decide +kernel
theorem dX5_endWeek_25 : decode cX5_endWeek 25 = .ok (.iconst 1, 1) := by decide +kernel
theorem dX5_endWeek_26 : decode cX5_endWeek 26 = .ok (.goto 4, 3) := by decide +kernel
theorem dX5_endWeek_29 : decode cX5_endWeek 29 = .ok (.iconst 0, 1) := by decide +kernel
theorem dX5_endWeek_30 : decode cX5_endWeek 30 = .ok (.istore_n 2, 1) := by decide +kernel
theorem dX5_endWeek_31 : decode cX5_endWeek 31 = .ok (.aload_n 1, 1) := by decide +kernel
theorem dX5_endWeek_32 : decode cX5_endWeek 32 = .ok (.iconst 0, 1) := by decide +kernel
theorem dX5_endWeek_33 : decode cX5_endWeek 33 = .ok (.iconst 1, 1) := by decide +kernel
theorem dX5_endWeek_34 : decode cX5_endWeek 34 = .ok (.invokevirtual 151, 3) := by decide +kernel
theorem dX5_endWeek_37 : decode cX5_endWeek 37 = .ok (.aload_n 0, 1) := by decide +kernel
theorem dX5_endWeek_38 : decode cX5_endWeek 38 = .ok (.getfield 12, 3) := by decide +kernel
theorem dX5_endWeek_41 : decode cX5_endWeek 41 = .ok (.iconst 1, 1) := by decide +kernel
theorem dX5_endWeek_42 : decode cX5_endWeek 42 = .ok (.aaload, 1) := by decide +kernel
theorem dX5_endWeek_43 : decode cX5_endWeek 43 = .ok (.getfield 98, 3) := by decide +kernel
theorem dX5_endWeek_46 : decode cX5_endWeek 46 = .ok (.aload_n 1, 1) := by decide +kernel
theorem dX5_endWeek_47 : decode cX5_endWeek 47 = .ok (.invokevirtual 201, 3) := by decide +kernel
theorem dX5_endWeek_50 : decode cX5_endWeek 50 = .ok (.aload_n 0, 1) := by decide +kernel
theorem dX5_endWeek_51 : decode cX5_endWeek 51 = .ok (.getfield 12, 3) := by decide +kernel
theorem dX5_endWeek_54 : decode cX5_endWeek 54 = .ok (.iconst 0, 1) := by decide +kernel
theorem dX5_endWeek_55 : decode cX5_endWeek 55 = .ok (.aaload, 1) := by decide +kernel
theorem dX5_endWeek_56 : decode cX5_endWeek 56 = .ok (.getfield 98, 3) := by decide +kernel
theorem dX5_endWeek_59 : decode cX5_endWeek 59 = .ok (.aload_n 0, 1) := by decide +kernel
theorem dX5_endWeek_60 : decode cX5_endWeek 60 = .ok (.getfield 12, 3) := by decide +kernel
theorem dX5_endWeek_63 : decode cX5_endWeek 63 = .ok (.iconst 1, 1) := by decide +kernel
theorem dX5_endWeek_64 : decode cX5_endWeek 64 = .ok (.aaload, 1) := by decide +kernel
theorem dX5_endWeek_65 : decode cX5_endWeek 65 = .ok (.getfield 98, 3) := by decide +kernel
theorem dX5_endWeek_68 : decode cX5_endWeek 68 = .ok (.invokevirtual 201, 3) := by decide +kernel
theorem dX5_endWeek_71 : decode cX5_endWeek 71 = .ok (.aload_n 0, 1) := by decide +kernel
theorem dX5_endWeek_72 : decode cX5_endWeek 72 = .ok (.getfield 28, 3) := by decide +kernel
theorem dX5_endWeek_75 : decode cX5_endWeek 75 = .ok (.bipush (-2), 2) := by decide +kernel
theorem dX5_endWeek_77 : decode cX5_endWeek 77 = .ok (.invokevirtual 204, 3) := by decide +kernel
theorem dX5_endWeek_80 : decode cX5_endWeek 80 = .ok (.aload_n 0, 1) := by decide +kernel
theorem dX5_endWeek_81 : decode cX5_endWeek 81 = .ok (.dup, 1) := by decide +kernel
theorem dX5_endWeek_82 : decode cX5_endWeek 82 = .ok (.getfield 45, 3) := by decide +kernel
theorem dX5_endWeek_85 : decode cX5_endWeek 85 = .ok (.iload_n 2, 1) := by decide +kernel
theorem dX5_endWeek_86 : decode cX5_endWeek 86 = .ok (.iadd, 1) := by decide +kernel
theorem dX5_endWeek_87 : decode cX5_endWeek 87 = .ok (.putfield 45, 3) := by decide +kernel
theorem dX5_endWeek_90 : decode cX5_endWeek 90 = .ok (.aload_n 0, 1) := by decide +kernel
theorem dX5_endWeek_91 : decode cX5_endWeek 91 = .ok (.iconst 0, 1) := by decide +kernel
theorem dX5_endWeek_92 : decode cX5_endWeek 92 = .ok (.putfield 51, 3) := by decide +kernel
theorem dX5_endWeek_95 : decode cX5_endWeek 95 = .ok (.aload_n 0, 1) := by decide +kernel
theorem dX5_endWeek_96 : decode cX5_endWeek 96 = .ok (.dup, 1) := by decide +kernel
theorem dX5_endWeek_97 : decode cX5_endWeek 97 = .ok (.getfield 36, 3) := by decide +kernel
theorem dX5_endWeek_100 : decode cX5_endWeek 100 = .ok (.iconst 1, 1) := by decide +kernel
theorem dX5_endWeek_101 : decode cX5_endWeek 101 = .ok (.iadd, 1) := by decide +kernel
theorem dX5_endWeek_102 : decode cX5_endWeek 102 = .ok (.putfield 36, 3) := by decide +kernel
theorem dX5_endWeek_105 : decode cX5_endWeek 105 = .ok (.iload_n 2, 1) := by decide +kernel
theorem dX5_endWeek_106 : decode cX5_endWeek 106 = .ok (.ireturn, 1) := by decide +kernel
set_option maxRecDepth 20000 in
theorem ggX5_priceInNewWeek_X6_number : GoodIn wsX5_priceInNewWeek wsX6_number := goodIn_ca (goodIn_r _ [6, 7, 8, 20, 21] (by decide +kernel) (by decide +kernel)) (goodIn_sub (fun _ h => List.mem_cons_of_mem _ (List.mem_append_right _ h)) (by decide +kernel))
set_option maxRecDepth 20000 in
theorem gX5_priceInNewWeek_X6_number : GoodIn wsX5_priceInNewWeek (wsV RX5 188 RX6 yX6_number wsX6_number) := goodIn_app (goodIn_of _ (by decide +kernel)) ggX5_priceInNewWeek_X6_number
theorem dX5_priceInNewWeek_0 : decode cX5_priceInNewWeek 0 = .ok (.aload_n 0, 1) := by decide +kernel
theorem dX5_priceInNewWeek_1 : decode cX5_priceInNewWeek 1 = .ok (.getfield 21, 3) := by decide +kernel
theorem dX5_priceInNewWeek_4 : decode cX5_priceInNewWeek 4 = .ok (.iload_n 1, 1) := by decide +kernel
theorem dX5_priceInNewWeek_5 : decode cX5_priceInNewWeek 5 = .ok (.iconst 3, 1) := by decide +kernel
theorem dX5_priceInNewWeek_6 : decode cX5_priceInNewWeek 6 = .ok (.invokevirtual 188, 3) := by decide +kernel
theorem dX5_priceInNewWeek_9 : decode cX5_priceInNewWeek 9 = .ok (.iconst 2, 1) := by decide +kernel
theorem dX5_priceInNewWeek_10 : decode cX5_priceInNewWeek 10 = .ok (.if_icmp .ne 7, 3) := by decide +kernel
theorem dX5_priceInNewWeek_13 : decode cX5_priceInNewWeek 13 = .ok (.iconst 4, 1) := by decide +kernel
theorem dX5_priceInNewWeek_14 : decode cX5_priceInNewWeek 14 = .ok (.goto 4, 3) := by decide +kernel
theorem dX5_priceInNewWeek_17 : decode cX5_priceInNewWeek 17 = .ok (.iconst 0, 1) := by decide +kernel
theorem dX5_priceInNewWeek_18 : decode cX5_priceInNewWeek 18 = .ok (.istore_n 2, 1) := by decide +kernel
theorem dX5_priceInNewWeek_19 : decode cX5_priceInNewWeek 19 = .ok (.bipush 12, 2) := by decide +kernel
theorem dX5_priceInNewWeek_21 : decode cX5_priceInNewWeek 21 = .ok (.aload_n 0, 1) := by decide +kernel
theorem dX5_priceInNewWeek_22 : decode cX5_priceInNewWeek 22 = .ok (.getfield 21, 3) := by decide +kernel
theorem dX5_priceInNewWeek_25 : decode cX5_priceInNewWeek 25 = .ok (.iload_n 1, 1) := by decide +kernel
theorem dX5_priceInNewWeek_26 : decode cX5_priceInNewWeek 26 = .ok (.iconst 0, 1) := by decide +kernel
theorem dX5_priceInNewWeek_27 : decode cX5_priceInNewWeek 27 = .ok (.invokevirtual 188, 3) := by decide +kernel
theorem dX5_priceInNewWeek_30 : decode cX5_priceInNewWeek 30 = .ok (.isub, 1) := by decide +kernel
theorem dX5_priceInNewWeek_31 : decode cX5_priceInNewWeek 31 = .ok (.iload_n 2, 1) := by decide +kernel
theorem dX5_priceInNewWeek_32 : decode cX5_priceInNewWeek 32 = .ok (.iadd, 1) := by decide +kernel
theorem dX5_priceInNewWeek_33 : decode cX5_priceInNewWeek 33 = .ok (.ireturn, 1) := by decide +kernel
set_option maxRecDepth 20000 in
theorem ggX5_priceOf_X5_priceInNewWeek : GoodIn wsX5_priceOf wsX5_priceInNewWeek := goodIn_ca (goodIn_r _ [10, 11, 12, 13, 14, 15, 16, 17, 18, 19, 20, 21, 22, 23, 24, 25, 26, 27, 28, 29, 30, 31] (by decide +kernel) (by decide +kernel)) (goodIn_sub (fun _ h => List.mem_cons_of_mem _ (List.mem_append_right _ h)) (by decide +kernel))
set_option maxRecDepth 20000 in
theorem gX5_priceOf_X5_priceInNewWeek : GoodIn wsX5_priceOf (wsV RX5 208 RX5 yX5_priceInNewWeek wsX5_priceInNewWeek) := goodIn_app (goodIn_of _ (by decide +kernel)) ggX5_priceOf_X5_priceInNewWeek
theorem dX5_priceOf_0 : decode cX5_priceOf 0 = .ok (.iconst 1, 1) := by decide +kernel
theorem dX5_priceOf_1 : decode cX5_priceOf 1 = .ok (.aload_n 0, 1) := by decide +kernel
theorem dX5_priceOf_2 : decode cX5_priceOf 2 = .ok (.iload_n 1, 1) := by decide +kernel
theorem dX5_priceOf_3 : decode cX5_priceOf 3 = .ok (.invokevirtual 208, 3) := by decide +kernel
theorem dX5_priceOf_6 : decode cX5_priceOf 6 = .ok (.aload_n 0, 1) := by decide +kernel
theorem dX5_priceOf_7 : decode cX5_priceOf 7 = .ok (.getfield 51, 3) := by decide +kernel
theorem dX5_priceOf_10 : decode cX5_priceOf 10 = .ok (.isub, 1) := by decide +kernel
theorem dX5_priceOf_11 : decode cX5_priceOf 11 = .ok (.invokestatic 211, 3) := by decide +kernel
theorem dX5_priceOf_14 : decode cX5_priceOf 14 = .ok (.ireturn, 1) := by decide +kernel
set_option maxRecDepth 20000 in
theorem ggX5_repairCost_X6_number : GoodIn wsX5_repairCost wsX6_number := goodIn_ca (goodIn_r _ [6, 7, 8, 20, 21] (by decide +kernel) (by decide +kernel)) (goodIn_sub (fun _ h => List.mem_cons_of_mem _ (List.mem_append_right _ h)) (by decide +kernel))
set_option maxRecDepth 20000 in
theorem gX5_repairCost_X6_number : GoodIn wsX5_repairCost (wsV RX5 188 RX6 yX6_number wsX6_number) := goodIn_app (goodIn_of _ (by decide +kernel)) ggX5_repairCost_X6_number
theorem dX5_repairCost_0 : decode cX5_repairCost 0 = .ok (.iconst 2, 1) := by decide +kernel
theorem dX5_repairCost_1 : decode cX5_repairCost 1 = .ok (.aload_n 0, 1) := by decide +kernel
theorem dX5_repairCost_2 : decode cX5_repairCost 2 = .ok (.getfield 21, 3) := by decide +kernel
theorem dX5_repairCost_5 : decode cX5_repairCost 5 = .ok (.iload_n 1, 1) := by decide +kernel
theorem dX5_repairCost_6 : decode cX5_repairCost 6 = .ok (.iconst 2, 1) := by decide +kernel
theorem dX5_repairCost_7 : decode cX5_repairCost 7 = .ok (.invokevirtual 188, 3) := by decide +kernel
theorem dX5_repairCost_10 : decode cX5_repairCost 10 = .ok (.iadd, 1) := by decide +kernel
theorem dX5_repairCost_11 : decode cX5_repairCost 11 = .ok (.ireturn, 1) := by decide +kernel
set_option maxRecDepth 20000 in
theorem ggX5_repairedGrey_X6_grey : GoodIn wsX5_repairedGrey wsX6_grey := goodIn_ca (goodIn_r _ [10, 11, 12, 13, 9, 14, 15, 16, 28, 29] (by decide +kernel) (by decide +kernel)) (goodIn_sub (fun _ h => List.mem_cons_of_mem _ (List.mem_append_right _ h)) (by decide +kernel))
set_option maxRecDepth 20000 in
theorem gX5_repairedGrey_X6_grey : GoodIn wsX5_repairedGrey (wsV RX5 154 RX6 yX6_grey wsX6_grey) := goodIn_app (goodIn_of _ (by decide +kernel)) ggX5_repairedGrey_X6_grey
theorem dX5_repairedGrey_0 : decode cX5_repairedGrey 0 = .ok (.bipush 9, 2) := by decide +kernel
theorem dX5_repairedGrey_2 : decode cX5_repairedGrey 2 = .ok (.aload_n 0, 1) := by decide +kernel
theorem dX5_repairedGrey_3 : decode cX5_repairedGrey 3 = .ok (.getfield 21, 3) := by decide +kernel
theorem dX5_repairedGrey_6 : decode cX5_repairedGrey 6 = .ok (.iload_n 1, 1) := by decide +kernel
theorem dX5_repairedGrey_7 : decode cX5_repairedGrey 7 = .ok (.invokevirtual 154, 3) := by decide +kernel
theorem dX5_repairedGrey_10 : decode cX5_repairedGrey 10 = .ok (.iconst 2, 1) := by decide +kernel
theorem dX5_repairedGrey_11 : decode cX5_repairedGrey 11 = .ok (.iadd, 1) := by decide +kernel
theorem dX5_repairedGrey_12 : decode cX5_repairedGrey 12 = .ok (.invokestatic 216, 3) := by decide +kernel
theorem dX5_repairedGrey_15 : decode cX5_repairedGrey 15 = .ok (.ireturn, 1) := by decide +kernel
set_option maxRecDepth 20000 in
theorem ggX5_repairedAlarm_X6_alarm : GoodIn wsX5_repairedAlarm wsX6_alarm := goodIn_ca (goodIn_r _ [10, 11, 12, 13, 9, 14, 15, 16, 28, 29] (by decide +kernel) (by decide +kernel)) (goodIn_sub (fun _ h => List.mem_cons_of_mem _ (List.mem_append_right _ h)) (by decide +kernel))
set_option maxRecDepth 20000 in
theorem gX5_repairedAlarm_X6_alarm : GoodIn wsX5_repairedAlarm (wsV RX5 157 RX6 yX6_alarm wsX6_alarm) := goodIn_app (goodIn_of _ (by decide +kernel)) ggX5_repairedAlarm_X6_alarm
theorem dX5_repairedAlarm_0 : decode cX5_repairedAlarm 0 = .ok (.iconst 4, 1) := by decide +kernel
theorem dX5_repairedAlarm_1 : decode cX5_repairedAlarm 1 = .ok (.aload_n 0, 1) := by decide +kernel
theorem dX5_repairedAlarm_2 : decode cX5_repairedAlarm 2 = .ok (.getfield 21, 3) := by decide +kernel
theorem dX5_repairedAlarm_5 : decode cX5_repairedAlarm 5 = .ok (.iload_n 1, 1) := by decide +kernel
theorem dX5_repairedAlarm_6 : decode cX5_repairedAlarm 6 = .ok (.invokevirtual 157, 3) := by decide +kernel
theorem dX5_repairedAlarm_9 : decode cX5_repairedAlarm 9 = .ok (.iconst 1, 1) := by decide +kernel
theorem dX5_repairedAlarm_10 : decode cX5_repairedAlarm 10 = .ok (.isub, 1) := by decide +kernel
theorem dX5_repairedAlarm_11 : decode cX5_repairedAlarm 11 = .ok (.invokestatic 211, 3) := by decide +kernel
theorem dX5_repairedAlarm_14 : decode cX5_repairedAlarm 14 = .ok (.ireturn, 1) := by decide +kernel
set_option maxRecDepth 20000 in
theorem ggX5_dearest_X5_priceOf : GoodIn wsX5_dearest wsX5_priceOf := goodIn_ca (goodIn_r _ [7, 8, 9, 10, 11, 12, 13, 14, 15, 6, 16, 1, 17, 18, 19, 20, 21, 22, 23, 24, 25, 26, 27, 28, 29, 30, 31, 32, 33, 34, 35, 36] (by decide +kernel) (by decide +kernel)) (goodIn_sub (fun _ h => List.mem_cons_of_mem _ (List.mem_append_right _ h)) (by decide +kernel))
set_option maxRecDepth 20000 in
theorem gX5_dearest_X5_priceOf : GoodIn wsX5_dearest (wsV RX5 192 RX5 yX5_priceOf wsX5_priceOf) := goodIn_app (goodIn_of _ (by decide +kernel)) ggX5_dearest_X5_priceOf
theorem dX5_dearest_0 : decode cX5_dearest 0 = .ok (.iconst 0, 1) := by decide +kernel
theorem dX5_dearest_1 : decode cX5_dearest 1 = .ok (.istore_n 1, 1) := by decide +kernel
theorem dX5_dearest_2 : decode cX5_dearest 2 = .ok (.iconst 1, 1) := by decide +kernel
theorem dX5_dearest_3 : decode cX5_dearest 3 = .ok (.istore_n 2, 1) := by decide +kernel
theorem dX5_dearest_4 : decode cX5_dearest 4 = .ok (.iload_n 2, 1) := by decide +kernel
theorem dX5_dearest_5 : decode cX5_dearest 5 = .ok (.aload_n 0, 1) := by decide +kernel
theorem dX5_dearest_6 : decode cX5_dearest 6 = .ok (.getfield 21, 3) := by decide +kernel
theorem dX5_dearest_9 : decode cX5_dearest 9 = .ok (.getfield 101, 3) := by decide +kernel
theorem dX5_dearest_12 : decode cX5_dearest 12 = .ok (.if_icmp .ge 24, 3) := by decide +kernel
theorem dX5_dearest_15 : decode cX5_dearest 15 = .ok (.aload_n 0, 1) := by decide +kernel
theorem dX5_dearest_16 : decode cX5_dearest 16 = .ok (.iload_n 2, 1) := by decide +kernel
theorem dX5_dearest_17 : decode cX5_dearest 17 = .ok (.invokevirtual 192, 3) := by decide +kernel
theorem dX5_dearest_20 : decode cX5_dearest 20 = .ok (.aload_n 0, 1) := by decide +kernel
theorem dX5_dearest_21 : decode cX5_dearest 21 = .ok (.iload_n 1, 1) := by decide +kernel
theorem dX5_dearest_22 : decode cX5_dearest 22 = .ok (.invokevirtual 192, 3) := by decide +kernel
theorem dX5_dearest_25 : decode cX5_dearest 25 = .ok (.if_icmp .le 5, 3) := by decide +kernel
theorem dX5_dearest_28 : decode cX5_dearest 28 = .ok (.iload_n 2, 1) := by decide +kernel
theorem dX5_dearest_29 : decode cX5_dearest 29 = .ok (.istore_n 1, 1) := by decide +kernel
theorem dX5_dearest_30 : decode cX5_dearest 30 = .ok (.iinc 2 1, 3) := by decide +kernel
theorem dX5_dearest_33 : decode cX5_dearest 33 = .ok (.goto (-29), 3) := by decide +kernel
theorem dX5_dearest_36 : decode cX5_dearest 36 = .ok (.iload_n 1, 1) := by decide +kernel
theorem dX5_dearest_37 : decode cX5_dearest 37 = .ok (.ireturn, 1) := by decide +kernel
set_option maxRecDepth 20000 in
theorem ggX5_greyestAt_X5_comesAhead : GoodIn wsX5_greyestAt wsX5_comesAhead := goodIn_ca (goodIn_r _ [5, 6, 7, 8, 9, 10, 11, 12, 13, 14, 15, 16, 17, 18, 19, 20, 21, 22, 23, 24, 25, 26, 27, 28, 29, 30, 31, 32, 33, 34, 35, 36, 37, 38, 39, 40, 41, 42, 43, 44, 45, 46, 47, 48, 49] (by decide +kernel) (by decide +kernel)) (goodIn_sub (fun _ h => List.mem_cons_of_mem _ (List.mem_append_right _ h)) (by decide +kernel))
set_option maxRecDepth 20000 in
theorem gX5_greyestAt_X5_comesAhead : GoodIn wsX5_greyestAt (wsV RX5 219 RX5 yX5_comesAhead wsX5_comesAhead) := goodIn_app (goodIn_of _ (by decide +kernel)) ggX5_greyestAt_X5_comesAhead
theorem dX5_greyestAt_0 : decode cX5_greyestAt 0 = .ok (.iconst 0, 1) := by decide +kernel
theorem dX5_greyestAt_1 : decode cX5_greyestAt 1 = .ok (.istore_n 2, 1) := by decide +kernel
theorem dX5_greyestAt_2 : decode cX5_greyestAt 2 = .ok (.iload_n 2, 1) := by decide +kernel
theorem dX5_greyestAt_3 : decode cX5_greyestAt 3 = .ok (.iconst 3, 1) := by decide +kernel
theorem dX5_greyestAt_4 : decode cX5_greyestAt 4 = .ok (.if_icmp .ge 51, 3) := by decide +kernel
theorem dX5_greyestAt_7 : decode cX5_greyestAt 7 = .ok (.iconst 0, 1) := by decide +kernel
theorem dX5_greyestAt_8 : decode cX5_greyestAt 8 = .ok (.istore_n 3, 1) := by decide +kernel
theorem dX5_greyestAt_9 : decode cX5_greyestAt 9 = .ok (.iconst 0, 1) := by decide +kernel
theorem dX5_greyestAt_10 : decode cX5_greyestAt 10 = .ok (.istore 4, 2) := by decide +kernel
theorem dX5_greyestAt_12 : decode cX5_greyestAt 12 = .ok (.iload 4, 2) := by decide +kernel
theorem dX5_greyestAt_14 : decode cX5_greyestAt 14 = .ok (.iconst 3, 1) := by decide +kernel
theorem dX5_greyestAt_15 : decode cX5_greyestAt 15 = .ok (.if_icmp .ge 27, 3) := by decide +kernel
theorem dX5_greyestAt_18 : decode cX5_greyestAt 18 = .ok (.iload_n 3, 1) := by decide +kernel
theorem dX5_greyestAt_19 : decode cX5_greyestAt 19 = .ok (.aload_n 0, 1) := by decide +kernel
theorem dX5_greyestAt_20 : decode cX5_greyestAt 20 = .ok (.iload 4, 2) := by decide +kernel
theorem dX5_greyestAt_22 : decode cX5_greyestAt 22 = .ok (.iload_n 2, 1) := by decide +kernel
theorem dX5_greyestAt_23 : decode cX5_greyestAt 23 = .ok (.invokevirtual 219, 3) := by decide +kernel
theorem dX5_greyestAt_26 : decode cX5_greyestAt 26 = .ok (.ifCond .eq 7, 3) := by decide +kernel
theorem dX5_greyestAt_29 : decode cX5_greyestAt 29 = .ok (.iconst 1, 1) := by decide +kernel
theorem dX5_greyestAt_30 : decode cX5_greyestAt 30 = .ok (.goto 4, 3) := by decide +kernel
theorem dX5_greyestAt_33 : decode cX5_greyestAt 33 = .ok (.iconst 0, 1) := by decide +kernel
theorem dX5_greyestAt_34 : decode cX5_greyestAt 34 = .ok (.iadd, 1) := by decide +kernel
theorem dX5_greyestAt_35 : decode cX5_greyestAt 35 = .ok (.istore_n 3, 1) := by decide +kernel
theorem dX5_greyestAt_36 : decode cX5_greyestAt 36 = .ok (.iinc 4 1, 3) := by decide +kernel
theorem dX5_greyestAt_39 : decode cX5_greyestAt 39 = .ok (.goto (-27), 3) := by decide +kernel
theorem dX5_greyestAt_42 : decode cX5_greyestAt 42 = .ok (.iload_n 3, 1) := by decide +kernel
theorem dX5_greyestAt_43 : decode cX5_greyestAt 43 = .ok (.iload_n 1, 1) := by decide +kernel
theorem dX5_greyestAt_44 : decode cX5_greyestAt 44 = .ok (.if_icmp .ne 5, 3) := by decide +kernel
theorem dX5_greyestAt_47 : decode cX5_greyestAt 47 = .ok (.iload_n 2, 1) := by decide +kernel
theorem dX5_greyestAt_48 : decode cX5_greyestAt 48 = .ok (.ireturn, 1) := by decide +kernel
theorem dX5_greyestAt_49 : decode cX5_greyestAt 49 = .ok (.iinc 2 1, 3) := by decide +kernel
theorem dX5_greyestAt_52 : decode cX5_greyestAt 52 = .ok (.goto (-50), 3) := by decide +kernel
theorem dX5_greyestAt_55 : decode cX5_greyestAt 55 = .ok (.iconst (-1), 1) := by decide +kernel
theorem dX5_greyestAt_56 : decode cX5_greyestAt 56 = .ok (.ireturn, 1) := by decide +kernel
set_option maxRecDepth 20000 in
theorem ggX5_comesAhead_X0_greys : GoodIn wsX5_comesAhead wsX0_greys := goodIn_ca (goodIn_r _ [8, 9, 10, 11, 12, 13, 14, 15, 16, 17, 18, 19, 20, 21, 22, 23, 24, 25, 37, 38, 39, 40, 41, 42, 43, 44] (by decide +kernel) (by decide +kernel)) (goodIn_sub (fun _ h => List.mem_cons_of_mem _ (List.mem_append_right _ h)) (by decide +kernel))
set_option maxRecDepth 20000 in
theorem gX5_comesAhead_X0_greys : GoodIn wsX5_comesAhead (wsV RX5 222 RX0 yX0_greys wsX0_greys) := goodIn_app (goodIn_of _ (by decide +kernel)) ggX5_comesAhead_X0_greys
theorem dX5_comesAhead_0 : decode cX5_comesAhead 0 = .ok (.aload_n 0, 1) := by decide +kernel
theorem dX5_comesAhead_1 : decode cX5_comesAhead 1 = .ok (.getfield 12, 3) := by decide +kernel
theorem dX5_comesAhead_4 : decode cX5_comesAhead 4 = .ok (.iload_n 1, 1) := by decide +kernel
theorem dX5_comesAhead_5 : decode cX5_comesAhead 5 = .ok (.aaload, 1) := by decide +kernel
theorem dX5_comesAhead_6 : decode cX5_comesAhead 6 = .ok (.invokevirtual 222, 3) := by decide +kernel
theorem dX5_comesAhead_9 : decode cX5_comesAhead 9 = .ok (.aload_n 0, 1) := by decide +kernel
theorem dX5_comesAhead_10 : decode cX5_comesAhead 10 = .ok (.getfield 12, 3) := by decide +kernel
theorem dX5_comesAhead_13 : decode cX5_comesAhead 13 = .ok (.iload_n 2, 1) := by decide +kernel
theorem dX5_comesAhead_14 : decode cX5_comesAhead 14 = .ok (.aaload, 1) := by decide +kernel
theorem dX5_comesAhead_15 : decode cX5_comesAhead 15 = .ok (.invokevirtual 222, 3) := by decide +kernel
theorem dX5_comesAhead_18 : decode cX5_comesAhead 18 = .ok (.isub, 1) := by decide +kernel
theorem dX5_comesAhead_19 : decode cX5_comesAhead 19 = .ok (.istore_n 3, 1) := by decide +kernel
theorem dX5_comesAhead_20 : decode cX5_comesAhead 20 = .ok (.aload_n 0, 1) := by decide +kernel
theorem dX5_comesAhead_21 : decode cX5_comesAhead 21 = .ok (.getfield 12, 3) := by decide +kernel
theorem dX5_comesAhead_24 : decode cX5_comesAhead 24 = .ok (.iload_n 1, 1) := by decide +kernel
theorem dX5_comesAhead_25 : decode cX5_comesAhead 25 = .ok (.aaload, 1) := by decide +kernel
theorem dX5_comesAhead_26 : decode cX5_comesAhead 26 = .ok (.getfield 98, 3) := by decide +kernel
theorem dX5_comesAhead_29 : decode cX5_comesAhead 29 = .ok (.getfield 101, 3) := by decide +kernel
theorem dX5_comesAhead_32 : decode cX5_comesAhead 32 = .ok (.aload_n 0, 1) := by decide +kernel
theorem dX5_comesAhead_33 : decode cX5_comesAhead 33 = .ok (.getfield 12, 3) := by decide +kernel
theorem dX5_comesAhead_36 : decode cX5_comesAhead 36 = .ok (.iload_n 2, 1) := by decide +kernel
theorem dX5_comesAhead_37 : decode cX5_comesAhead 37 = .ok (.aaload, 1) := by decide +kernel
theorem dX5_comesAhead_38 : decode cX5_comesAhead 38 = .ok (.getfield 98, 3) := by decide +kernel
theorem dX5_comesAhead_41 : decode cX5_comesAhead 41 = .ok (.getfield 101, 3) := by decide +kernel
theorem dX5_comesAhead_44 : decode cX5_comesAhead 44 = .ok (.isub, 1) := by decide +kernel
theorem dX5_comesAhead_45 : decode cX5_comesAhead 45 = .ok (.istore 4, 2) := by decide +kernel
theorem dX5_comesAhead_47 : decode cX5_comesAhead 47 = .ok (.iload_n 3, 1) := by decide +kernel
theorem dX5_comesAhead_48 : decode cX5_comesAhead 48 = .ok (.ifCond .eq 13, 3) := by decide +kernel
theorem dX5_comesAhead_51 : decode cX5_comesAhead 51 = .ok (.iload_n 3, 1) := by decide +kernel
theorem dX5_comesAhead_52 : decode cX5_comesAhead 52 = .ok (.ifCond .le 7, 3) := by decide +kernel
theorem dX5_comesAhead_55 : decode cX5_comesAhead 55 = .ok (.iconst 1, 1) := by decide +kernel
theorem dX5_comesAhead_56 : decode cX5_comesAhead 56 = .ok (.goto 4, 3) := by decide +kernel
theorem dX5_comesAhead_59 : decode cX5_comesAhead 59 = .ok (.iconst 0, 1) := by decide +kernel
theorem dX5_comesAhead_60 : decode cX5_comesAhead 60 = .ok (.ireturn, 1) := by decide +kernel
theorem dX5_comesAhead_61 : decode cX5_comesAhead 61 = .ok (.iload 4, 2) := by decide +kernel
theorem dX5_comesAhead_63 : decode cX5_comesAhead 63 = .ok (.ifCond .ne 16, 3) := by decide +kernel
theorem dX5_comesAhead_66 : decode cX5_comesAhead 66 = .ok (.iload_n 1, 1) := by decide +kernel
theorem dX5_comesAhead_67 : decode cX5_comesAhead 67 = .ok (.iload_n 2, 1) := by decide +kernel
theorem dX5_comesAhead_68 : decode cX5_comesAhead 68 = .ok (.if_icmp .ge 7, 3) := by decide +kernel
theorem dX5_comesAhead_71 : decode cX5_comesAhead 71 = .ok (.iconst 1, 1) := by decide +kernel
theorem dX5_comesAhead_72 : decode cX5_comesAhead 72 = .ok (.goto 17, 3) := by decide +kernel
theorem dX5_comesAhead_75 : decode cX5_comesAhead 75 = .ok (.iconst 0, 1) := by decide +kernel
theorem dX5_comesAhead_76 : decode cX5_comesAhead 76 = .ok (.goto 13, 3) := by decide +kernel
theorem dX5_comesAhead_79 : decode cX5_comesAhead 79 = .ok (.iload 4, 2) := by decide +kernel
theorem dX5_comesAhead_81 : decode cX5_comesAhead 81 = .ok (.ifCond .le 7, 3) := by decide +kernel
theorem dX5_comesAhead_84 : decode cX5_comesAhead 84 = .ok (.iconst 1, 1) := by decide +kernel
theorem dX5_comesAhead_85 : decode cX5_comesAhead 85 = .ok (.goto 4, 3) := by decide +kernel
theorem dX5_comesAhead_88 : decode cX5_comesAhead 88 = .ok (.iconst 0, 1) := by decide +kernel
theorem dX5_comesAhead_89 : decode cX5_comesAhead 89 = .ok (.ireturn, 1) := by decide +kernel
set_option maxRecDepth 20000 in
theorem ggX5_accountOf_X5_carriers : GoodIn wsX5_accountOf wsX5_carriers := goodIn_r _ [17, 18, 19, 2, 47, 48, 49, 50, 51, 52, 53, 54, 55, 56, 57, 62, 63, 64, 65, 66, 67, 58, 59] (by decide +kernel) (by decide +kernel)
set_option maxRecDepth 20000 in
theorem gX5_accountOf_X5_carriers : GoodIn wsX5_accountOf (wsV RX5 225 RX5 yX5_carriers wsX5_carriers) := goodIn_app (goodIn_of _ (by decide +kernel)) ggX5_accountOf_X5_carriers
set_option maxRecDepth 20000 in
theorem ggX5_accountOf_X5_mondays : GoodIn wsX5_accountOf wsX5_mondays := goodIn_ca (goodIn_r _ [23, 18, 19, 2, 24, 25, 26, 27, 28, 29, 30, 31, 32, 33, 34, 35, 36, 37, 38, 39, 40, 41, 47, 48, 49, 50, 51, 52, 53, 54, 55, 56, 57, 62, 63, 64, 65, 66, 67, 58, 59] (by decide +kernel) (by decide +kernel)) (goodIn_sub (fun _ h => List.mem_cons_of_mem _ (List.mem_append_right _ h)) (by decide +kernel))
set_option maxRecDepth 20000 in
theorem gX5_accountOf_X5_mondays : GoodIn wsX5_accountOf (wsV RX5 228 RX5 yX5_mondays wsX5_mondays) := goodIn_app (goodIn_of _ (by decide +kernel)) ggX5_accountOf_X5_mondays
set_option maxRecDepth 20000 in
theorem ggX5_accountOf_X5_stamped : GoodIn wsX5_accountOf wsX5_stamped := goodIn_r _ [45, 18, 46, 47, 48, 49, 50, 51, 52, 53, 54, 55, 56, 57, 62, 63, 64, 65, 66, 67] (by decide +kernel) (by decide +kernel)
set_option maxRecDepth 20000 in
theorem gX5_accountOf_X5_stamped : GoodIn wsX5_accountOf (wsV RX5 231 RX5 yX5_stamped wsX5_stamped) := goodIn_app (goodIn_of _ (by decide +kernel)) ggX5_accountOf_X5_stamped
theorem dX5_accountOf_0 : decode cX5_accountOf 0 = .ok (.iload_n 1, 1) := by decide +kernel
theorem dX5_accountOf_1 : decode cX5_accountOf 1 = .ok (.tableswitch 134 0 11 #[63, 68, 78, 86, 94, 99, 104, 109, 114, 119, 124, 129], 63) := by decide +kernel
theorem dX5_accountOf_64 : decode cX5_accountOf 64 = .ok (.aload_n 0, 1) := by decide +kernel
theorem dX5_accountOf_65 : decode cX5_accountOf 65 = .ok (.invokevirtual 225, 3) := by decide +kernel
theorem dX5_accountOf_68 : decode cX5_accountOf 68 = .ok (.ireturn, 1) := by decide +kernel
theorem dX5_accountOf_69 : decode cX5_accountOf 69 = .ok (.aload_n 0, 1) := by decide +kernel
theorem dX5_accountOf_70 : decode cX5_accountOf 70 = .ok (.invokevirtual 225, 3) := by decide +kernel
theorem dX5_accountOf_73 : decode cX5_accountOf 73 = .ok (.aload_n 0, 1) := by decide +kernel
theorem dX5_accountOf_74 : decode cX5_accountOf 74 = .ok (.invokevirtual 228, 3) := by decide +kernel
theorem dX5_accountOf_77 : decode cX5_accountOf 77 = .ok (.isub, 1) := by decide +kernel
theorem dX5_accountOf_78 : decode cX5_accountOf 78 = .ok (.ireturn, 1) := by decide +kernel
theorem dX5_accountOf_79 : decode cX5_accountOf 79 = .ok (.aload_n 0, 1) := by decide +kernel
theorem dX5_accountOf_80 : decode cX5_accountOf 80 = .ok (.getfield 21, 3) := by decide +kernel
theorem dX5_accountOf_83 : decode cX5_accountOf 83 = .ok (.getfield 101, 3) := by decide +kernel
theorem dX5_accountOf_86 : decode cX5_accountOf 86 = .ok (.ireturn, 1) := by decide +kernel
theorem dX5_accountOf_87 : decode cX5_accountOf 87 = .ok (.aload_n 0, 1) := by decide +kernel
theorem dX5_accountOf_88 : decode cX5_accountOf 88 = .ok (.getfield 28, 3) := by decide +kernel
theorem dX5_accountOf_91 : decode cX5_accountOf 91 = .ok (.getfield 67, 3) := by decide +kernel
theorem dX5_accountOf_94 : decode cX5_accountOf 94 = .ok (.ireturn, 1) := by decide +kernel
theorem dX5_accountOf_95 : decode cX5_accountOf 95 = .ok (.aload_n 0, 1) := by decide +kernel
theorem dX5_accountOf_96 : decode cX5_accountOf 96 = .ok (.getfield 32, 3) := by decide +kernel
theorem dX5_accountOf_99 : decode cX5_accountOf 99 = .ok (.ireturn, 1) := by decide +kernel
theorem dX5_accountOf_100 : decode cX5_accountOf 100 = .ok (.aload_n 0, 1) := by decide +kernel
theorem dX5_accountOf_101 : decode cX5_accountOf 101 = .ok (.getfield 36, 3) := by decide +kernel
theorem dX5_accountOf_104 : decode cX5_accountOf 104 = .ok (.ireturn, 1) := by decide +kernel
theorem dX5_accountOf_105 : decode cX5_accountOf 105 = .ok (.aload_n 0, 1) := by decide +kernel
theorem dX5_accountOf_106 : decode cX5_accountOf 106 = .ok (.getfield 39, 3) := by decide +kernel
theorem dX5_accountOf_109 : decode cX5_accountOf 109 = .ok (.ireturn, 1) := by decide +kernel
theorem dX5_accountOf_110 : decode cX5_accountOf 110 = .ok (.aload_n 0, 1) := by decide +kernel
theorem dX5_accountOf_111 : decode cX5_accountOf 111 = .ok (.invokevirtual 231, 3) := by decide +kernel
theorem dX5_accountOf_114 : decode cX5_accountOf 114 = .ok (.ireturn, 1) := by decide +kernel
theorem dX5_accountOf_115 : decode cX5_accountOf 115 = .ok (.aload_n 0, 1) := by decide +kernel
theorem dX5_accountOf_116 : decode cX5_accountOf 116 = .ok (.getfield 42, 3) := by decide +kernel
theorem dX5_accountOf_119 : decode cX5_accountOf 119 = .ok (.ireturn, 1) := by decide +kernel
theorem dX5_accountOf_120 : decode cX5_accountOf 120 = .ok (.aload_n 0, 1) := by decide +kernel
theorem dX5_accountOf_121 : decode cX5_accountOf 121 = .ok (.getfield 45, 3) := by decide +kernel
theorem dX5_accountOf_124 : decode cX5_accountOf 124 = .ok (.ireturn, 1) := by decide +kernel
theorem dX5_accountOf_125 : decode cX5_accountOf 125 = .ok (.aload_n 0, 1) := by decide +kernel
theorem dX5_accountOf_126 : decode cX5_accountOf 126 = .ok (.getfield 48, 3) := by decide +kernel
theorem dX5_accountOf_129 : decode cX5_accountOf 129 = .ok (.ireturn, 1) := by decide +kernel
theorem dX5_accountOf_130 : decode cX5_accountOf 130 = .ok (.aload_n 0, 1) := by decide +kernel
theorem dX5_accountOf_131 : decode cX5_accountOf 131 = .ok (.getfield 51, 3) := by decide +kernel
theorem dX5_accountOf_134 : decode cX5_accountOf 134 = .ok (.ireturn, 1) := by decide +kernel
theorem dX5_accountOf_135 : decode cX5_accountOf 135 = .ok (.aload_n 0, 1) := by decide +kernel
theorem dX5_accountOf_136 : decode cX5_accountOf 136 = .ok (.getfield 54, 3) := by decide +kernel
theorem dX5_accountOf_139 : decode cX5_accountOf 139 = .ok (.ireturn, 1) := by decide +kernel
theorem dX5_carriers_0 : decode cX5_carriers 0 = .ok (.iconst 0, 1) := by decide +kernel
theorem dX5_carriers_1 : decode cX5_carriers 1 = .ok (.istore_n 1, 1) := by decide +kernel
theorem dX5_carriers_2 : decode cX5_carriers 2 = .ok (.aload_n 0, 1) := by decide +kernel
theorem dX5_carriers_3 : decode cX5_carriers 3 = .ok (.getfield 12, 3) := by decide +kernel
theorem dX5_carriers_6 : decode cX5_carriers 6 = .ok (.astore_n 2, 1) := by decide +kernel
theorem dX5_carriers_7 : decode cX5_carriers 7 = .ok (.aload_n 2, 1) := by decide +kernel
theorem dX5_carriers_8 : decode cX5_carriers 8 = .ok (.arraylength, 1) := by decide +kernel
theorem dX5_carriers_9 : decode cX5_carriers 9 = .ok (.istore_n 3, 1) := by decide +kernel
theorem dX5_carriers_10 : decode cX5_carriers 10 = .ok (.iconst 0, 1) := by decide +kernel
theorem dX5_carriers_11 : decode cX5_carriers 11 = .ok (.istore 4, 2) := by decide +kernel
theorem dX5_carriers_13 : decode cX5_carriers 13 = .ok (.iload 4, 2) := by decide +kernel
theorem dX5_carriers_15 : decode cX5_carriers 15 = .ok (.iload_n 3, 1) := by decide +kernel
theorem dX5_carriers_16 : decode cX5_carriers 16 = .ok (.if_icmp .ge 26, 3) := by decide +kernel
theorem dX5_carriers_19 : decode cX5_carriers 19 = .ok (.aload_n 2, 1) := by decide +kernel
theorem dX5_carriers_20 : decode cX5_carriers 20 = .ok (.iload 4, 2) := by decide +kernel
theorem dX5_carriers_22 : decode cX5_carriers 22 = .ok (.aaload, 1) := by decide +kernel
theorem dX5_carriers_23 : decode cX5_carriers 23 = .ok (.astore 5, 2) := by decide +kernel
theorem dX5_carriers_25 : decode cX5_carriers 25 = .ok (.iload_n 1, 1) := by decide +kernel
theorem dX5_carriers_26 : decode cX5_carriers 26 = .ok (.aload 5, 2) := by decide +kernel
theorem dX5_carriers_28 : decode cX5_carriers 28 = .ok (.getfield 98, 3) := by decide +kernel
theorem dX5_carriers_31 : decode cX5_carriers 31 = .ok (.getfield 101, 3) := by decide +kernel
theorem dX5_carriers_34 : decode cX5_carriers 34 = .ok (.iadd, 1) := by decide +kernel
theorem dX5_carriers_35 : decode cX5_carriers 35 = .ok (.istore_n 1, 1) := by decide +kernel
theorem dX5_carriers_36 : decode cX5_carriers 36 = .ok (.iinc 4 1, 3) := by decide +kernel
theorem dX5_carriers_39 : decode cX5_carriers 39 = .ok (.goto (-26), 3) := by decide +kernel
theorem dX5_carriers_42 : decode cX5_carriers 42 = .ok (.iload_n 1, 1) := by decide +kernel
theorem dX5_carriers_43 : decode cX5_carriers 43 = .ok (.ireturn, 1) := by decide +kernel
set_option maxRecDepth 20000 in
theorem ggX5_mondays_X0_blanks : GoodIn wsX5_mondays wsX0_blanks := goodIn_ca (goodIn_r _ [8, 9, 10, 11, 12, 13, 14, 15, 16, 17, 18, 19, 20, 21, 33, 34, 35, 36, 37, 38, 39, 40] (by decide +kernel) (by decide +kernel)) (goodIn_sub (fun _ h => List.mem_cons_of_mem _ (List.mem_append_right _ h)) (by decide +kernel))
set_option maxRecDepth 20000 in
theorem gX5_mondays_X0_blanks : GoodIn wsX5_mondays (wsV RX5 233 RX0 yX0_blanks wsX0_blanks) := goodIn_app (goodIn_of _ (by decide +kernel)) ggX5_mondays_X0_blanks
theorem dX5_mondays_0 : decode cX5_mondays 0 = .ok (.iconst 0, 1) := by decide +kernel
theorem dX5_mondays_1 : decode cX5_mondays 1 = .ok (.istore_n 1, 1) := by decide +kernel
theorem dX5_mondays_2 : decode cX5_mondays 2 = .ok (.aload_n 0, 1) := by decide +kernel
theorem dX5_mondays_3 : decode cX5_mondays 3 = .ok (.getfield 12, 3) := by decide +kernel
theorem dX5_mondays_6 : decode cX5_mondays 6 = .ok (.astore_n 2, 1) := by decide +kernel
theorem dX5_mondays_7 : decode cX5_mondays 7 = .ok (.aload_n 2, 1) := by decide +kernel
