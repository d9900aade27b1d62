set_option maxRecDepth 20000 in
theorem ggX2_init_X1_init : GoodIn wsX2_init wsX1_init := goodIn_r _ [13, 14, 2, 3, 15, 16, 28, 29, 30] (by decide +kernel) (by decide +kernel)
set_option maxRecDepth 20000 in
theorem gX2_init_X1_init_n21 : GoodIn wsX2_init (wsX1_init) := ggX2_init_X1_init
set_option maxRecDepth 20000 in
theorem ggX2_init_X0_init : GoodIn wsX2_init wsX0_init := goodIn_r _ [18, 19, 2, 3, 20, 31, 32, 33, 34, 35, 36] (by decide +kernel) (by decide +kernel)
set_option maxRecDepth 20000 in
theorem gX2_init_X0_init_n22 : GoodIn wsX2_init (wsX0_init) := ggX2_init_X0_init
theorem dX2_init_0 : decode cX2_init 0 = .ok (.aload_n 0, 1) := by decide +kernel
theorem dX2_init_1 : decode cX2_init 1 = .ok (.invokespecial 1, 3) := by decide +kernel
theorem dX2_init_4 : decode cX2_init 4 = .ok (.aload_n 0, 1) := by decide +kernel
theorem dX2_init_5 : decode cX2_init 5 = .ok (.iconst 3, 1) := by decide +kernel
theorem dX2_init_6 : decode cX2_init 6 = .ok (.anewarray 9, 3) := by decide +kernel
theorem dX2_init_9 : decode cX2_init 9 = .ok (.putfield 11, 3) := by decide +kernel
theorem dX2_init_12 : decode cX2_init 12 = .ok (.aload_n 0, 1) := by decide +kernel
theorem dX2_init_13 : decode cX2_init 13 = .ok (.iconst 4, 1) := by decide +kernel
theorem dX2_init_14 : decode cX2_init 14 = .ok (.anewarray 15, 3) := by decide +kernel
theorem dX2_init_17 : decode cX2_init 17 = .ok (.putfield 17, 3) := by decide +kernel
theorem dX2_init_20 : decode cX2_init 20 = .ok (.iconst 0, 1) := by decide +kernel
theorem dX2_init_21 : decode cX2_init 21 = .ok (.istore_n 1, 1) := by decide +kernel
theorem dX2_init_22 : decode cX2_init 22 = .ok (.iload_n 1, 1) := by decide +kernel
theorem dX2_init_23 : decode cX2_init 23 = .ok (.aload_n 0, 1) := by decide +kernel
theorem dX2_init_24 : decode cX2_init 24 = .ok (.getfield 11, 3) := by decide +kernel
theorem dX2_init_27 : decode cX2_init 27 = .ok (.arraylength, 1) := by decide +kernel
theorem dX2_init_28 : decode cX2_init 28 = .ok (.if_icmp .ge 22, 3) := by decide +kernel
theorem dX2_init_31 : decode cX2_init 31 = .ok (.aload_n 0, 1) := by decide +kernel
theorem dX2_init_32 : decode cX2_init 32 = .ok (.getfield 11, 3) := by decide +kernel
theorem dX2_init_35 : decode cX2_init 35 = .ok (.iload_n 1, 1) := by decide +kernel
theorem dX2_init_36 : decode cX2_init 36 = .ok (.new 9, 3) := by decide +kernel
theorem dX2_init_39 : decode cX2_init 39 = .ok (.dup, 1) := by decide +kernel
theorem dX2_init_40 : decode cX2_init 40 = .ok (.invokespecial 21, 3) := by decide +kernel
theorem dX2_init_43 : decode cX2_init 43 = .ok (.aastore, 1) := by decide +kernel
theorem dX2_init_44 : decode cX2_init 44 = .ok (.iinc 1 1, 3) := by decide +kernel
theorem dX2_init_47 : decode cX2_init 47 = .ok (.goto (-25), 3) := by decide +kernel
theorem dX2_init_50 : decode cX2_init 50 = .ok (.iconst 0, 1) := by decide +kernel
theorem dX2_init_51 : decode cX2_init 51 = .ok (.istore_n 1, 1) := by decide +kernel
theorem dX2_init_52 : decode cX2_init 52 = .ok (.iload_n 1, 1) := by decide +kernel
theorem dX2_init_53 : decode cX2_init 53 = .ok (.aload_n 0, 1) := by decide +kernel
theorem dX2_init_54 : decode cX2_init 54 = .ok (.getfield 17, 3) := by decide +kernel
theorem dX2_init_57 : decode cX2_init 57 = .ok (.arraylength, 1) := by decide +kernel
theorem dX2_init_58 : decode cX2_init 58 = .ok (.if_icmp .ge 22, 3) := by decide +kernel
theorem dX2_init_61 : decode cX2_init 61 = .ok (.aload_n 0, 1) := by decide +kernel
theorem dX2_init_62 : decode cX2_init 62 = .ok (.getfield 17, 3) := by decide +kernel
theorem dX2_init_65 : decode cX2_init 65 = .ok (.iload_n 1, 1) := by decide +kernel
theorem dX2_init_66 : decode cX2_init 66 = .ok (.new 15, 3) := by decide +kernel
theorem dX2_init_69 : decode cX2_init 69 = .ok (.dup, 1) := by decide +kernel
theorem dX2_init_70 : decode cX2_init 70 = .ok (.invokespecial 22, 3) := by decide +kernel
theorem dX2_init_73 : decode cX2_init 73 = .ok (.aastore, 1) := by decide +kernel
theorem dX2_init_74 : decode cX2_init 74 = .ok (.iinc 1 1, 3) := by decide +kernel
theorem dX2_init_77 : decode cX2_init 77 = .ok (.goto (-25), 3) := by decide +kernel
theorem dX2_init_80 : decode cX2_init 80 = .ok (.return_, 1) := by decide +kernel
set_option maxRecDepth 20000 in
theorem ggX2_put_X2_rowOf : GoodIn wsX2_put wsX2_rowOf := goodIn_r _ [5, 6, 34, 35, 36, 37, 38, 39, 40] (by decide +kernel) (by decide +kernel)
set_option maxRecDepth 20000 in
theorem gX2_put_X2_rowOf : GoodIn wsX2_put (wsV RX2 23 RX2 yX2_rowOf wsX2_rowOf) := goodIn_app (goodIn_of _ (by decide +kernel)) ggX2_put_X2_rowOf
set_option maxRecDepth 20000 in
theorem ggX2_put_X2_isName : GoodIn wsX2_put wsX2_isName := goodIn_r _ [9] (by decide +kernel) (by decide +kernel)
set_option maxRecDepth 20000 in
theorem gX2_put_X2_isName : GoodIn wsX2_put (va_wsS RX2 27 yX2_isName wsX2_isName) := goodIn_app (goodIn_of _ (by decide +kernel)) ggX2_put_X2_isName
set_option maxRecDepth 20000 in
theorem ggX2_put_X1_hasRoomFor : GoodIn wsX2_put wsX1_hasRoomFor := goodIn_r _ [14, 15, 31, 32, 33] (by decide +kernel) (by decide +kernel)
set_option maxRecDepth 20000 in
theorem gX2_put_X1_hasRoomFor : GoodIn wsX2_put (wsV RX2 31 RX1 yX1_hasRoomFor wsX1_hasRoomFor) := goodIn_app (goodIn_of _ (by decide +kernel)) ggX2_put_X1_hasRoomFor
set_option maxRecDepth 20000 in
theorem ggX2_put_X2_newThing : GoodIn wsX2_put wsX2_newThing := goodIn_r _ [19, 20, 34, 35, 36, 37, 38, 39, 40] (by decide +kernel) (by decide +kernel)
set_option maxRecDepth 20000 in
theorem gX2_put_X2_newThing : GoodIn wsX2_put (wsV RX2 38 RX2 yX2_newThing wsX2_newThing) := goodIn_app (goodIn_of _ (by decide +kernel)) ggX2_put_X2_newThing
set_option maxRecDepth 20000 in
theorem ggX2_put_X1_putAt : GoodIn wsX2_put wsX1_putAt := goodIn_r _ [24, 25, 26, 27, 28, 13, 29, 15, 30, 31, 32, 33] (by decide +kernel) (by decide +kernel)
set_option maxRecDepth 20000 in
theorem gX2_put_X1_putAt : GoodIn wsX2_put (wsV RX2 42 RX1 yX1_putAt wsX1_putAt) := goodIn_app (goodIn_of _ (by decide +kernel)) ggX2_put_X1_putAt
theorem dX2_put_0 : decode cX2_put 0 = .ok (.aload_n 0, 1) := by decide +kernel
theorem dX2_put_1 : decode cX2_put 1 = .ok (.iload_n 1, 1) := by decide +kernel
theorem dX2_put_2 : decode cX2_put 2 = .ok (.invokevirtual 23, 3) := by decide +kernel
theorem dX2_put_5 : decode cX2_put 5 = .ok (.astore 5, 2) := by decide +kernel
theorem dX2_put_7 : decode cX2_put 7 = .ok (.aload 5, 2) := by decide +kernel
theorem dX2_put_9 : decode cX2_put 9 = .ok (.ifnull 21, 3) := by decide +kernel
theorem dX2_put_12 : decode cX2_put 12 = .ok (.iload_n 2, 1) := by decide +kernel
theorem dX2_put_13 : decode cX2_put 13 = .ok (.invokestatic 27, 3) := by decide +kernel
theorem dX2_put_16 : decode cX2_put 16 = .ok (.ifCond .eq 14, 3) := by decide +kernel
theorem dX2_put_19 : decode cX2_put 19 = .ok (.iload 4, 2) := by decide +kernel
theorem dX2_put_21 : decode cX2_put 21 = .ok (.ifCond .lt 9, 3) := by decide +kernel
theorem dX2_put_24 : decode cX2_put 24 = .ok (.iload 4, 2) := by decide +kernel
theorem dX2_put_26 : decode cX2_put 26 = .ok (.iconst 2, 1) := by decide +kernel
theorem dX2_put_27 : decode cX2_put 27 = .ok (.if_icmp .le 5, 3) := by decide +kernel
theorem dX2_put_30 : decode cX2_put 30 = .ok (.iconst (-1), 1) := by decide +kernel
theorem dX2_put_31 : decode cX2_put 31 = .ok (.ireturn, 1) := by decide +kernel
theorem dX2_put_32 : decode cX2_put 32 = .ok (.aload 5, 2) := by decide +kernel
theorem dX2_put_34 : decode cX2_put 34 = .ok (.iconst 1, 1) := by decide +kernel
theorem dX2_put_35 : decode cX2_put 35 = .ok (.invokevirtual 31, 3) := by decide +kernel
theorem dX2_put_38 : decode cX2_put 38 = .ok (.ifCond .ne 6, 3) := by decide +kernel
theorem dX2_put_41 : decode cX2_put 41 = .ok (.bipush (-3), 2) := by decide +kernel
theorem dX2_put_43 : decode cX2_put 43 = .ok (.ireturn, 1) := by decide +kernel
theorem dX2_put_44 : decode cX2_put 44 = .ok (.aload 5, 2) := by decide +kernel
theorem dX2_put_46 : decode cX2_put 46 = .ok (.iload_n 3, 1) := by decide +kernel
theorem dX2_put_47 : decode cX2_put 47 = .ok (.ifCond .eq 11, 3) := by decide +kernel
theorem dX2_put_50 : decode cX2_put 50 = .ok (.aload 5, 2) := by decide +kernel
theorem dX2_put_52 : decode cX2_put 52 = .ok (.getfield 34, 3) := by decide +kernel
theorem dX2_put_55 : decode cX2_put 55 = .ok (.goto 4, 3) := by decide +kernel
theorem dX2_put_58 : decode cX2_put 58 = .ok (.iconst 0, 1) := by decide +kernel
theorem dX2_put_59 : decode cX2_put 59 = .ok (.aload_n 0, 1) := by decide +kernel
theorem dX2_put_60 : decode cX2_put 60 = .ok (.iload_n 2, 1) := by decide +kernel
theorem dX2_put_61 : decode cX2_put 61 = .ok (.invokevirtual 38, 3) := by decide +kernel
theorem dX2_put_64 : decode cX2_put 64 = .ok (.invokevirtual 42, 3) := by decide +kernel
theorem dX2_put_67 : decode cX2_put 67 = .ok (.aload 5, 2) := by decide +kernel
theorem dX2_put_69 : decode cX2_put 69 = .ok (.getfield 34, 3) := by decide +kernel
theorem dX2_put_72 : decode cX2_put 72 = .ok (.ireturn, 1) := by decide +kernel
set_option maxRecDepth 20000 in
theorem ggX2_end_X2_rowOf : GoodIn wsX2_end wsX2_rowOf := goodIn_r _ [5, 6, 31, 32, 33, 34, 35, 36, 37] (by decide +kernel) (by decide +kernel)
set_option maxRecDepth 20000 in
theorem gX2_end_X2_rowOf : GoodIn wsX2_end (wsV RX2 23 RX2 yX2_rowOf wsX2_rowOf) := goodIn_app (goodIn_of _ (by decide +kernel)) ggX2_end_X2_rowOf
set_option maxRecDepth 20000 in
theorem ggX2_end_X2_isEndWay : GoodIn wsX2_end wsX2_isEndWay := goodIn_r _ [9] (by decide +kernel) (by decide +kernel)
set_option maxRecDepth 20000 in
theorem gX2_end_X2_isEndWay : GoodIn wsX2_end (va_wsS RX2 46 yX2_isEndWay wsX2_isEndWay) := goodIn_app (goodIn_of _ (by decide +kernel)) ggX2_end_X2_isEndWay
set_option maxRecDepth 20000 in
theorem ggX2_end_X2_noEnd : GoodIn wsX2_end wsX2_noEnd := goodIn_r _ [13, 14, 15, 16, 4, 17, 18, 19, 20, 21, 31, 32, 33, 34, 35, 36, 37] (by decide +kernel) (by decide +kernel)
set_option maxRecDepth 20000 in
theorem gX2_end_X2_noEnd : GoodIn wsX2_end (wsV RX2 50 RX2 yX2_noEnd wsX2_noEnd) := goodIn_app (goodIn_of _ (by decide +kernel)) ggX2_end_X2_noEnd
set_option maxRecDepth 20000 in
theorem ggX2_end_X1_thingAt : GoodIn wsX2_end wsX1_thingAt := goodIn_r _ [26, 27, 28, 29, 30] (by decide +kernel) (by decide +kernel)
set_option maxRecDepth 20000 in
theorem gX2_end_X1_thingAt : GoodIn wsX2_end (wsV RX2 53 RX1 yX1_thingAt wsX1_thingAt) := goodIn_app (goodIn_of _ (by decide +kernel)) ggX2_end_X1_thingAt
theorem dX2_end_0 : decode cX2_end 0 = .ok (.aload_n 0, 1) := by decide +kernel
theorem dX2_end_1 : decode cX2_end 1 = .ok (.iload_n 1, 1) := by decide +kernel
theorem dX2_end_2 : decode cX2_end 2 = .ok (.invokevirtual 23, 3) := by decide +kernel
theorem dX2_end_5 : decode cX2_end 5 = .ok (.astore 4, 2) := by decide +kernel
theorem dX2_end_7 : decode cX2_end 7 = .ok (.aload 4, 2) := by decide +kernel
theorem dX2_end_9 : decode cX2_end 9 = .ok (.ifnull 12, 3) := by decide +kernel
theorem dX2_end_12 : decode cX2_end 12 = .ok (.iload_n 3, 1) := by decide +kernel
theorem dX2_end_13 : decode cX2_end 13 = .ok (.iconst 3, 1) := by decide +kernel
theorem dX2_end_14 : decode cX2_end 14 = .ok (.iload_n 2, 1) := by decide +kernel
theorem dX2_end_15 : decode cX2_end 15 = .ok (.invokestatic 46, 3) := by decide +kernel
theorem dX2_end_18 : decode cX2_end 18 = .ok (.ifCond .ne 5, 3) := by decide +kernel
theorem dX2_end_21 : decode cX2_end 21 = .ok (.iconst (-1), 1) := by decide +kernel
theorem dX2_end_22 : decode cX2_end 22 = .ok (.ireturn, 1) := by decide +kernel
theorem dX2_end_23 : decode cX2_end 23 = .ok (.aload 4, 2) := by decide +kernel
theorem dX2_end_25 : decode cX2_end 25 = .ok (.getfield 34, 3) := by decide +kernel
theorem dX2_end_28 : decode cX2_end 28 = .ok (.ifCond .ne 9, 3) := by decide +kernel
theorem dX2_end_31 : decode cX2_end 31 = .ok (.aload_n 0, 1) := by decide +kernel
theorem dX2_end_32 : decode cX2_end 32 = .ok (.iload_n 3, 1) := by decide +kernel
theorem dX2_end_33 : decode cX2_end 33 = .ok (.invokevirtual 50, 3) := by decide +kernel
theorem dX2_end_36 : decode cX2_end 36 = .ok (.ireturn, 1) := by decide +kernel
theorem dX2_end_37 : decode cX2_end 37 = .ok (.aload 4, 2) := by decide +kernel
theorem dX2_end_39 : decode cX2_end 39 = .ok (.iload_n 2, 1) := by decide +kernel
theorem dX2_end_40 : decode cX2_end 40 = .ok (.ifCond .eq 13, 3) := by decide +kernel
theorem dX2_end_43 : decode cX2_end 43 = .ok (.aload 4, 2) := by decide +kernel
theorem dX2_end_45 : decode cX2_end 45 = .ok (.getfield 34, 3) := by decide +kernel
theorem dX2_end_48 : decode cX2_end 48 = .ok (.iconst 1, 1) := by decide +kernel
theorem dX2_end_49 : decode cX2_end 49 = .ok (.isub, 1) := by decide +kernel
theorem dX2_end_50 : decode cX2_end 50 = .ok (.goto 4, 3) := by decide +kernel
theorem dX2_end_53 : decode cX2_end 53 = .ok (.iconst 0, 1) := by decide +kernel
theorem dX2_end_54 : decode cX2_end 54 = .ok (.invokevirtual 53, 3) := by decide +kernel
theorem dX2_end_57 : decode cX2_end 57 = .ok (.ireturn, 1) := by decide +kernel
set_option maxRecDepth 20000 in
theorem ggX2_take_X2_rowOf : GoodIn wsX2_take wsX2_rowOf := goodIn_r _ [5, 6, 37, 38, 39, 40, 41, 42, 43] (by decide +kernel) (by decide +kernel)
set_option maxRecDepth 20000 in
theorem gX2_take_X2_rowOf : GoodIn wsX2_take (wsV RX2 23 RX2 yX2_rowOf wsX2_rowOf) := goodIn_app (goodIn_of _ (by decide +kernel)) ggX2_take_X2_rowOf
set_option maxRecDepth 20000 in
theorem ggX2_take_X2_isEndWay : GoodIn wsX2_take wsX2_isEndWay := goodIn_r _ [9] (by decide +kernel) (by decide +kernel)
set_option maxRecDepth 20000 in
theorem gX2_take_X2_isEndWay : GoodIn wsX2_take (va_wsS RX2 46 yX2_isEndWay wsX2_isEndWay) := goodIn_app (goodIn_of _ (by decide +kernel)) ggX2_take_X2_isEndWay
set_option maxRecDepth 20000 in
theorem ggX2_take_X2_noEnd : GoodIn wsX2_take wsX2_noEnd := goodIn_r _ [13, 14, 15, 16, 4, 17, 18, 19, 20, 21, 37, 38, 39, 40, 41, 42, 43] (by decide +kernel) (by decide +kernel)
set_option maxRecDepth 20000 in
theorem gX2_take_X2_noEnd : GoodIn wsX2_take (wsV RX2 50 RX2 yX2_noEnd wsX2_noEnd) := goodIn_app (goodIn_of _ (by decide +kernel)) ggX2_take_X2_noEnd
set_option maxRecDepth 20000 in
theorem ggX2_take_X1_takeAt : GoodIn wsX2_take wsX1_takeAt := goodIn_r _ [26, 27, 28, 29, 30, 31, 25, 32, 33, 34, 35, 36] (by decide +kernel) (by decide +kernel)
set_option maxRecDepth 20000 in
theorem gX2_take_X1_takeAt : GoodIn wsX2_take (wsV RX2 56 RX1 yX1_takeAt wsX1_takeAt) := goodIn_app (goodIn_of _ (by decide +kernel)) ggX2_take_X1_takeAt
theorem dX2_take_0 : decode cX2_take 0 = .ok (.aload_n 0, 1) := by decide +kernel
theorem dX2_take_1 : decode cX2_take 1 = .ok (.iload_n 1, 1) := by decide +kernel
theorem dX2_take_2 : decode cX2_take 2 = .ok (.invokevirtual 23, 3) := by decide +kernel
theorem dX2_take_5 : decode cX2_take 5 = .ok (.astore 4, 2) := by decide +kernel
theorem dX2_take_7 : decode cX2_take 7 = .ok (.aload 4, 2) := by decide +kernel
theorem dX2_take_9 : decode cX2_take 9 = .ok (.ifnull 12, 3) := by decide +kernel
theorem dX2_take_12 : decode cX2_take 12 = .ok (.iload_n 3, 1) := by decide +kernel
theorem dX2_take_13 : decode cX2_take 13 = .ok (.iconst 4, 1) := by decide +kernel
theorem dX2_take_14 : decode cX2_take 14 = .ok (.iload_n 2, 1) := by decide +kernel
theorem dX2_take_15 : decode cX2_take 15 = .ok (.invokestatic 46, 3) := by decide +kernel
theorem dX2_take_18 : decode cX2_take 18 = .ok (.ifCond .ne 5, 3) := by decide +kernel
theorem dX2_take_21 : decode cX2_take 21 = .ok (.iconst (-1), 1) := by decide +kernel
theorem dX2_take_22 : decode cX2_take 22 = .ok (.ireturn, 1) := by decide +kernel
theorem dX2_take_23 : decode cX2_take 23 = .ok (.aload 4, 2) := by decide +kernel
theorem dX2_take_25 : decode cX2_take 25 = .ok (.getfield 34, 3) := by decide +kernel
theorem dX2_take_28 : decode cX2_take 28 = .ok (.ifCond .ne 9, 3) := by decide +kernel
theorem dX2_take_31 : decode cX2_take 31 = .ok (.aload_n 0, 1) := by decide +kernel
theorem dX2_take_32 : decode cX2_take 32 = .ok (.iload_n 3, 1) := by decide +kernel
theorem dX2_take_33 : decode cX2_take 33 = .ok (.invokevirtual 50, 3) := by decide +kernel
theorem dX2_take_36 : decode cX2_take 36 = .ok (.ireturn, 1) := by decide +kernel
theorem dX2_take_37 : decode cX2_take 37 = .ok (.aload 4, 2) := by decide +kernel
theorem dX2_take_39 : decode cX2_take 39 = .ok (.iload_n 2, 1) := by decide +kernel
theorem dX2_take_40 : decode cX2_take 40 = .ok (.ifCond .eq 13, 3) := by decide +kernel
theorem dX2_take_43 : decode cX2_take 43 = .ok (.aload 4, 2) := by decide +kernel
theorem dX2_take_45 : decode cX2_take 45 = .ok (.getfield 34, 3) := by decide +kernel
theorem dX2_take_48 : decode cX2_take 48 = .ok (.iconst 1, 1) := by decide +kernel
theorem dX2_take_49 : decode cX2_take 49 = .ok (.isub, 1) := by decide +kernel
theorem dX2_take_50 : decode cX2_take 50 = .ok (.goto 4, 3) := by decide +kernel
theorem dX2_take_53 : decode cX2_take 53 = .ok (.iconst 0, 1) := by decide +kernel
theorem dX2_take_54 : decode cX2_take 54 = .ok (.invokevirtual 56, 3) := by decide +kernel
theorem dX2_take_57 : decode cX2_take 57 = .ok (.ireturn, 1) := by decide +kernel
set_option maxRecDepth 20000 in
theorem ggX2_at_X2_rowOf : GoodIn wsX2_at wsX2_rowOf := goodIn_r _ [5, 6, 26, 27, 28, 29, 30, 31, 32] (by decide +kernel) (by decide +kernel)
set_option maxRecDepth 20000 in
theorem gX2_at_X2_rowOf : GoodIn wsX2_at (wsV RX2 23 RX2 yX2_rowOf wsX2_rowOf) := goodIn_app (goodIn_of _ (by decide +kernel)) ggX2_at_X2_rowOf
set_option maxRecDepth 20000 in
theorem ggX2_at_X1_hasThingAt : GoodIn wsX2_at wsX1_hasThingAt := goodIn_r _ [11, 12, 33, 34, 35] (by decide +kernel) (by decide +kernel)
set_option maxRecDepth 20000 in
theorem gX2_at_X1_hasThingAt : GoodIn wsX2_at (wsV RX2 59 RX1 yX1_hasThingAt wsX1_hasThingAt) := goodIn_app (goodIn_of _ (by decide +kernel)) ggX2_at_X1_hasThingAt
set_option maxRecDepth 20000 in
theorem ggX2_at_X2_refused : GoodIn wsX2_at wsX2_refused := goodIn_r _ [16, 17, 18, 19, 20, 26, 27, 28, 29, 30, 31, 32] (by decide +kernel) (by decide +kernel)
set_option maxRecDepth 20000 in
theorem gX2_at_X2_refused : GoodIn wsX2_at (wsV RX2 62 RX2 yX2_refused wsX2_refused) := goodIn_app (goodIn_of _ (by decide +kernel)) ggX2_at_X2_refused
set_option maxRecDepth 20000 in
theorem ggX2_at_X1_thingAt : GoodIn wsX2_at wsX1_thingAt := goodIn_r _ [24, 25, 33, 34, 35] (by decide +kernel) (by decide +kernel)
set_option maxRecDepth 20000 in
theorem gX2_at_X1_thingAt : GoodIn wsX2_at (wsV RX2 53 RX1 yX1_thingAt wsX1_thingAt) := goodIn_app (goodIn_of _ (by decide +kernel)) ggX2_at_X1_thingAt
theorem dX2_at_0 : decode cX2_at 0 = .ok (.aload_n 0, 1) := by decide +kernel
theorem dX2_at_1 : decode cX2_at 1 = .ok (.iload_n 1, 1) := by decide +kernel
theorem dX2_at_2 : decode cX2_at 2 = .ok (.invokevirtual 23, 3) := by decide +kernel
theorem dX2_at_5 : decode cX2_at 5 = .ok (.astore_n 3, 1) := by decide +kernel
theorem dX2_at_6 : decode cX2_at 6 = .ok (.aload_n 3, 1) := by decide +kernel
theorem dX2_at_7 : decode cX2_at 7 = .ok (.ifnonnull 5, 3) := by decide +kernel
theorem dX2_at_10 : decode cX2_at 10 = .ok (.iconst (-1), 1) := by decide +kernel
theorem dX2_at_11 : decode cX2_at 11 = .ok (.ireturn, 1) := by decide +kernel
theorem dX2_at_12 : decode cX2_at 12 = .ok (.aload_n 3, 1) := by decide +kernel
theorem dX2_at_13 : decode cX2_at 13 = .ok (.iload_n 2, 1) := by decide +kernel
theorem dX2_at_14 : decode cX2_at 14 = .ok (.invokevirtual 59, 3) := by decide +kernel
theorem dX2_at_17 : decode cX2_at 17 = .ok (.ifCond .ne 10, 3) := by decide +kernel
theorem dX2_at_20 : decode cX2_at 20 = .ok (.aload_n 0, 1) := by decide +kernel
theorem dX2_at_21 : decode cX2_at 21 = .ok (.bipush (-5), 2) := by decide +kernel
theorem dX2_at_23 : decode cX2_at 23 = .ok (.invokevirtual 62, 3) := by decide +kernel
theorem dX2_at_26 : decode cX2_at 26 = .ok (.ireturn, 1) := by decide +kernel
theorem dX2_at_27 : decode cX2_at 27 = .ok (.aload_n 3, 1) := by decide +kernel
theorem dX2_at_28 : decode cX2_at 28 = .ok (.iload_n 2, 1) := by decide +kernel
theorem dX2_at_29 : decode cX2_at 29 = .ok (.invokevirtual 53, 3) := by decide +kernel
theorem dX2_at_32 : decode cX2_at 32 = .ok (.ireturn, 1) := by decide +kernel
set_option maxRecDepth 20000 in
theorem ggX2_lay_X2_rowOf : GoodIn wsX2_lay wsX2_rowOf := goodIn_r _ [5, 6, 34, 35, 36, 37, 38, 39, 40] (by decide +kernel) (by decide +kernel)
set_option maxRecDepth 20000 in
theorem gX2_lay_X2_rowOf : GoodIn wsX2_lay (wsV RX2 23 RX2 yX2_rowOf wsX2_rowOf) := goodIn_app (goodIn_of _ (by decide +kernel)) ggX2_lay_X2_rowOf
set_option maxRecDepth 20000 in
theorem ggX2_lay_X2_isName : GoodIn wsX2_lay wsX2_isName := goodIn_r _ [9] (by decide +kernel) (by decide +kernel)
set_option maxRecDepth 20000 in
theorem gX2_lay_X2_isName : GoodIn wsX2_lay (va_wsS RX2 27 yX2_isName wsX2_isName) := goodIn_app (goodIn_of _ (by decide +kernel)) ggX2_lay_X2_isName
set_option maxRecDepth 20000 in
theorem ggX2_lay_X1_hasThingAt : GoodIn wsX2_lay wsX1_hasThingAt := goodIn_r _ [14, 15, 41, 42, 43] (by decide +kernel) (by decide +kernel)
set_option maxRecDepth 20000 in
theorem gX2_lay_X1_hasThingAt : GoodIn wsX2_lay (wsV RX2 59 RX1 yX1_hasThingAt wsX1_hasThingAt) := goodIn_app (goodIn_of _ (by decide +kernel)) ggX2_lay_X1_hasThingAt
set_option maxRecDepth 20000 in
theorem ggX2_lay_X2_refused : GoodIn wsX2_lay wsX2_refused := goodIn_r _ [19, 20, 21, 22, 23, 34, 35, 36, 37, 38, 39, 40] (by decide +kernel) (by decide +kernel)
set_option maxRecDepth 20000 in
theorem gX2_lay_X2_refused : GoodIn wsX2_lay (wsV RX2 62 RX2 yX2_refused wsX2_refused) := goodIn_app (goodIn_of _ (by decide +kernel)) ggX2_lay_X2_refused
set_option maxRecDepth 20000 in
theorem ggX2_lay_X2_newThing : GoodIn wsX2_lay wsX2_newThing := goodIn_r _ [27, 28, 34, 35, 36, 37, 38, 39, 40] (by decide +kernel) (by decide +kernel)
set_option maxRecDepth 20000 in
theorem gX2_lay_X2_newThing : GoodIn wsX2_lay (wsV RX2 38 RX2 yX2_newThing wsX2_newThing) := goodIn_app (goodIn_of _ (by decide +kernel)) ggX2_lay_X2_newThing
set_option maxRecDepth 20000 in
theorem ggX2_lay_X1_layAt : GoodIn wsX2_lay wsX1_layAt := goodIn_r _ [32, 33, 41, 42, 43] (by decide +kernel) (by decide +kernel)
set_option maxRecDepth 20000 in
theorem gX2_lay_X1_layAt : GoodIn wsX2_lay (wsV RX2 65 RX1 yX1_layAt wsX1_layAt) := goodIn_app (goodIn_of _ (by decide +kernel)) ggX2_lay_X1_layAt
theorem dX2_lay_0 : decode cX2_lay 0 = .ok (.aload_n 0, 1) := by decide +kernel
theorem dX2_lay_1 : decode cX2_lay 1 = .ok (.iload_n 1, 1) := by decide +kernel
theorem dX2_lay_2 : decode cX2_lay 2 = .ok (.invokevirtual 23, 3) := by decide +kernel
theorem dX2_lay_5 : decode cX2_lay 5 = .ok (.astore 4, 2) := by decide +kernel
theorem dX2_lay_7 : decode cX2_lay 7 = .ok (.aload 4, 2) := by decide +kernel
theorem dX2_lay_9 : decode cX2_lay 9 = .ok (.ifnull 10, 3) := by decide +kernel
theorem dX2_lay_12 : decode cX2_lay 12 = .ok (.iload_n 3, 1) := by decide +kernel
theorem dX2_lay_13 : decode cX2_lay 13 = .ok (.invokestatic 27, 3) := by decide +kernel
theorem dX2_lay_16 : decode cX2_lay 16 = .ok (.ifCond .ne 5, 3) := by decide +kernel
theorem dX2_lay_19 : decode cX2_lay 19 = .ok (.iconst (-1), 1) := by decide +kernel
theorem dX2_lay_20 : decode cX2_lay 20 = .ok (.ireturn, 1) := by decide +kernel
theorem dX2_lay_21 : decode cX2_lay 21 = .ok (.aload 4, 2) := by decide +kernel
theorem dX2_lay_23 : decode cX2_lay 23 = .ok (.iload_n 2, 1) := by decide +kernel
theorem dX2_lay_24 : decode cX2_lay 24 = .ok (.invokevirtual 59, 3) := by decide +kernel
theorem dX2_lay_27 : decode cX2_lay 27 = .ok (.ifCond .ne 10, 3) := by decide +kernel
theorem dX2_lay_30 : decode cX2_lay 30 = .ok (.aload_n 0, 1) := by decide +kernel
theorem dX2_lay_31 : decode cX2_lay 31 = .ok (.bipush (-5), 2) := by decide +kernel
theorem dX2_lay_33 : decode cX2_lay 33 = .ok (.invokevirtual 62, 3) := by decide +kernel
theorem dX2_lay_36 : decode cX2_lay 36 = .ok (.ireturn, 1) := by decide +kernel
theorem dX2_lay_37 : decode cX2_lay 37 = .ok (.aload 4, 2) := by decide +kernel
theorem dX2_lay_39 : decode cX2_lay 39 = .ok (.iload_n 2, 1) := by decide +kernel
theorem dX2_lay_40 : decode cX2_lay 40 = .ok (.aload_n 0, 1) := by decide +kernel
theorem dX2_lay_41 : decode cX2_lay 41 = .ok (.iload_n 3, 1) := by decide +kernel
theorem dX2_lay_42 : decode cX2_lay 42 = .ok (.invokevirtual 38, 3) := by decide +kernel
theorem dX2_lay_45 : decode cX2_lay 45 = .ok (.invokevirtual 65, 3) := by decide +kernel
theorem dX2_lay_48 : decode cX2_lay 48 = .ok (.ireturn, 1) := by decide +kernel
set_option maxRecDepth 20000 in
theorem ggX2_insert_X2_rowOf : GoodIn wsX2_insert wsX2_rowOf := goodIn_r _ [5, 6, 46, 47, 48, 49, 50, 51, 52] (by decide +kernel) (by decide +kernel)
set_option maxRecDepth 20000 in
theorem gX2_insert_X2_rowOf : GoodIn wsX2_insert (wsV RX2 23 RX2 yX2_rowOf wsX2_rowOf) := goodIn_app (goodIn_of _ (by decide +kernel)) ggX2_insert_X2_rowOf
set_option maxRecDepth 20000 in
theorem ggX2_insert_X2_isName : GoodIn wsX2_insert wsX2_isName := goodIn_r _ [9] (by decide +kernel) (by decide +kernel)
set_option maxRecDepth 20000 in
theorem gX2_insert_X2_isName : GoodIn wsX2_insert (va_wsS RX2 27 yX2_isName wsX2_isName) := goodIn_app (goodIn_of _ (by decide +kernel)) ggX2_insert_X2_isName
set_option maxRecDepth 20000 in
theorem ggX2_insert_X1_hasRoomFor : GoodIn wsX2_insert wsX1_hasRoomFor := goodIn_r _ [14, 15, 43, 44, 45] (by decide +kernel) (by decide +kernel)
set_option maxRecDepth 20000 in
theorem gX2_insert_X1_hasRoomFor : GoodIn wsX2_insert (wsV RX2 31 RX1 yX1_hasRoomFor wsX1_hasRoomFor) := goodIn_app (goodIn_of _ (by decide +kernel)) ggX2_insert_X1_hasRoomFor
set_option maxRecDepth 20000 in
theorem ggX2_insert_X1_canPutAt : GoodIn wsX2_insert wsX1_canPutAt := goodIn_r _ [19, 15, 43, 44, 45] (by decide +kernel) (by decide +kernel)
set_option maxRecDepth 20000 in
theorem gX2_insert_X1_canPutAt : GoodIn wsX2_insert (wsV RX2 69 RX1 yX1_canPutAt wsX1_canPutAt) := goodIn_app (goodIn_of _ (by decide +kernel)) ggX2_insert_X1_canPutAt
set_option maxRecDepth 20000 in
theorem ggX2_insert_X2_refused : GoodIn wsX2_insert wsX2_refused := goodIn_r _ [23, 24, 25, 26, 27, 46, 47, 48, 49, 50, 51, 52] (by decide +kernel) (by decide +kernel)
set_option maxRecDepth 20000 in
theorem gX2_insert_X2_refused : GoodIn wsX2_insert (wsV RX2 62 RX2 yX2_refused wsX2_refused) := goodIn_app (goodIn_of _ (by decide +kernel)) ggX2_insert_X2_refused
set_option maxRecDepth 20000 in
theorem ggX2_insert_X2_newThing : GoodIn wsX2_insert wsX2_newThing := goodIn_r _ [31, 32, 46, 47, 48, 49, 50, 51, 52] (by decide +kernel) (by decide +kernel)
set_option maxRecDepth 20000 in
theorem gX2_insert_X2_newThing : GoodIn wsX2_insert (wsV RX2 38 RX2 yX2_newThing wsX2_newThing) := goodIn_app (goodIn_of _ (by decide +kernel)) ggX2_insert_X2_newThing
set_option maxRecDepth 20000 in
theorem ggX2_insert_X1_putAt : GoodIn wsX2_insert wsX1_putAt := goodIn_r _ [36, 37, 38, 39, 40, 13, 41, 15, 42, 43, 44, 45] (by decide +kernel) (by decide +kernel)
set_option maxRecDepth 20000 in
theorem gX2_insert_X1_putAt : GoodIn wsX2_insert (wsV RX2 42 RX1 yX1_putAt wsX1_putAt) := goodIn_app (goodIn_of _ (by decide +kernel)) ggX2_insert_X1_putAt
theorem dX2_insert_0 : decode cX2_insert 0 = .ok (.aload_n 0, 1) := by decide +kernel
theorem dX2_insert_1 : decode cX2_insert 1 = .ok (.iload_n 1, 1) := by decide +kernel
theorem dX2_insert_2 : decode cX2_insert 2 = .ok (.invokevirtual 23, 3) := by decide +kernel
theorem dX2_insert_5 : decode cX2_insert 5 = .ok (.astore 4, 2) := by decide +kernel
theorem dX2_insert_7 : decode cX2_insert 7 = .ok (.aload 4, 2) := by decide +kernel
theorem dX2_insert_9 : decode cX2_insert 9 = .ok (.ifnull 10, 3) := by decide +kernel
theorem dX2_insert_12 : decode cX2_insert 12 = .ok (.iload_n 3, 1) := by decide +kernel
theorem dX2_insert_13 : decode cX2_insert 13 = .ok (.invokestatic 27, 3) := by decide +kernel
theorem dX2_insert_16 : decode cX2_insert 16 = .ok (.ifCond .ne 5, 3) := by decide +kernel
theorem dX2_insert_19 : decode cX2_insert 19 = .ok (.iconst (-1), 1) := by decide +kernel
theorem dX2_insert_20 : decode cX2_insert 20 = .ok (.ireturn, 1) := by decide +kernel
theorem dX2_insert_21 : decode cX2_insert 21 = .ok (.aload 4, 2) := by decide +kernel
theorem dX2_insert_23 : decode cX2_insert 23 = .ok (.iconst 1, 1) := by decide +kernel
theorem dX2_insert_24 : decode cX2_insert 24 = .ok (.invokevirtual 31, 3) := by decide +kernel
theorem dX2_insert_27 : decode cX2_insert 27 = .ok (.ifCond .ne 6, 3) := by decide +kernel
theorem dX2_insert_30 : decode cX2_insert 30 = .ok (.bipush (-3), 2) := by decide +kernel
theorem dX2_insert_32 : decode cX2_insert 32 = .ok (.ireturn, 1) := by decide +kernel
theorem dX2_insert_33 : decode cX2_insert 33 = .ok (.aload 4, 2) := by decide +kernel
theorem dX2_insert_35 : decode cX2_insert 35 = .ok (.iload_n 2, 1) := by decide +kernel
theorem dX2_insert_36 : decode cX2_insert 36 = .ok (.invokevirtual 69, 3) := by decide +kernel
theorem dX2_insert_39 : decode cX2_insert 39 = .ok (.ifCond .ne 10, 3) := by decide +kernel
theorem dX2_insert_42 : decode cX2_insert 42 = .ok (.aload_n 0, 1) := by decide +kernel
theorem dX2_insert_43 : decode cX2_insert 43 = .ok (.bipush (-5), 2) := by decide +kernel
theorem dX2_insert_45 : decode cX2_insert 45 = .ok (.invokevirtual 62, 3) := by decide +kernel
theorem dX2_insert_48 : decode cX2_insert 48 = .ok (.ireturn, 1) := by decide +kernel
theorem dX2_insert_49 : decode cX2_insert 49 = .ok (.aload 4, 2) := by decide +kernel
theorem dX2_insert_51 : decode cX2_insert 51 = .ok (.iload_n 2, 1) := by decide +kernel
theorem dX2_insert_52 : decode cX2_insert 52 = .ok (.aload_n 0, 1) := by decide +kernel
theorem dX2_insert_53 : decode cX2_insert 53 = .ok (.iload_n 3, 1) := by decide +kernel
theorem dX2_insert_54 : decode cX2_insert 54 = .ok (.invokevirtual 38, 3) := by decide +kernel
theorem dX2_insert_57 : decode cX2_insert 57 = .ok (.invokevirtual 42, 3) := by decide +kernel
theorem dX2_insert_60 : decode cX2_insert 60 = .ok (.aload 4, 2) := by decide +kernel
theorem dX2_insert_62 : decode cX2_insert 62 = .ok (.getfield 34, 3) := by decide +kernel
theorem dX2_insert_65 : decode cX2_insert 65 = .ok (.ireturn, 1) := by decide +kernel
set_option maxRecDepth 20000 in
theorem ggX2_drop_X2_rowOf : GoodIn wsX2_drop wsX2_rowOf := goodIn_r _ [5, 6, 31, 32, 33, 34, 35, 36, 37] (by decide +kernel) (by decide +kernel)
set_option maxRecDepth 20000 in
theorem gX2_drop_X2_rowOf : GoodIn wsX2_drop (wsV RX2 23 RX2 yX2_rowOf wsX2_rowOf) := goodIn_app (goodIn_of _ (by decide +kernel)) ggX2_drop_X2_rowOf
set_option maxRecDepth 20000 in
theorem ggX2_drop_X1_hasThingAt : GoodIn wsX2_drop wsX1_hasThingAt := goodIn_r _ [11, 12, 38, 39, 40] (by decide +kernel) (by decide +kernel)
set_option maxRecDepth 20000 in
theorem gX2_drop_X1_hasThingAt : GoodIn wsX2_drop (wsV RX2 59 RX1 yX1_hasThingAt wsX1_hasThingAt) := goodIn_app (goodIn_of _ (by decide +kernel)) ggX2_drop_X1_hasThingAt
set_option maxRecDepth 20000 in
theorem ggX2_drop_X2_refused : GoodIn wsX2_drop wsX2_refused := goodIn_r _ [16, 17, 18, 19, 20, 31, 32, 33, 34, 35, 36, 37] (by decide +kernel) (by decide +kernel)
set_option maxRecDepth 20000 in
theorem gX2_drop_X2_refused : GoodIn wsX2_drop (wsV RX2 62 RX2 yX2_refused wsX2_refused) := goodIn_app (goodIn_of _ (by decide +kernel)) ggX2_drop_X2_refused
set_option maxRecDepth 20000 in
theorem ggX2_drop_X1_takeAt : GoodIn wsX2_drop wsX1_takeAt := goodIn_r _ [24, 25, 12, 26, 27, 28, 10, 29, 30, 38, 39, 40] (by decide +kernel) (by decide +kernel)
set_option maxRecDepth 20000 in
theorem gX2_drop_X1_takeAt : GoodIn wsX2_drop (wsV RX2 56 RX1 yX1_takeAt wsX1_takeAt) := goodIn_app (goodIn_of _ (by decide +kernel)) ggX2_drop_X1_takeAt
theorem dX2_drop_0 : decode cX2_drop 0 = .ok (.aload_n 0, 1) := by decide +kernel
theorem dX2_drop_1 : decode cX2_drop 1 = .ok (.iload_n 1, 1) := by decide +kernel
theorem dX2_drop_2 : decode cX2_drop 2 = .ok (.invokevirtual 23, 3) := by decide +kernel
theorem dX2_drop_5 : decode cX2_drop 5 = .ok (.astore_n 3, 1) := by decide +kernel
theorem dX2_drop_6 : decode cX2_drop 6 = .ok (.aload_n 3, 1) := by decide +kernel
theorem dX2_drop_7 : decode cX2_drop 7 = .ok (.ifnonnull 5, 3) := by decide +kernel
theorem dX2_drop_10 : decode cX2_drop 10 = .ok (.iconst (-1), 1) := by decide +kernel
theorem dX2_drop_11 : decode cX2_drop 11 = .ok (.ireturn, 1) := by decide +kernel
theorem dX2_drop_12 : decode cX2_drop 12 = .ok (.aload_n 3, 1) := by decide +kernel
theorem dX2_drop_13 : decode cX2_drop 13 = .ok (.iload_n 2, 1) := by decide +kernel
theorem dX2_drop_14 : decode cX2_drop 14 = .ok (.invokevirtual 59, 3) := by decide +kernel
theorem dX2_drop_17 : decode cX2_drop 17 = .ok (.ifCond .ne 10, 3) := by decide +kernel
theorem dX2_drop_20 : decode cX2_drop 20 = .ok (.aload_n 0, 1) := by decide +kernel
theorem dX2_drop_21 : decode cX2_drop 21 = .ok (.bipush (-5), 2) := by decide +kernel
theorem dX2_drop_23 : decode cX2_drop 23 = .ok (.invokevirtual 62, 3) := by decide +kernel
theorem dX2_drop_26 : decode cX2_drop 26 = .ok (.ireturn, 1) := by decide +kernel
theorem dX2_drop_27 : decode cX2_drop 27 = .ok (.aload_n 3, 1) := by decide +kernel
theorem dX2_drop_28 : decode cX2_drop 28 = .ok (.iload_n 2, 1) := by decide +kernel
theorem dX2_drop_29 : decode cX2_drop 29 = .ok (.invokevirtual 56, 3) := by decide +kernel
theorem dX2_drop_32 : decode cX2_drop 32 = .ok (.ireturn, 1) := by decide +kernel
set_option maxRecDepth 20000 in
theorem ggX2_find_X2_rowOf : GoodIn wsX2_find wsX2_rowOf := goodIn_r _ [5, 6, 17, 18, 19, 20, 21, 22, 23] (by decide +kernel) (by decide +kernel)
set_option maxRecDepth 20000 in
theorem gX2_find_X2_rowOf : GoodIn wsX2_find (wsV RX2 23 RX2 yX2_rowOf wsX2_rowOf) := goodIn_app (goodIn_of _ (by decide +kernel)) ggX2_find_X2_rowOf
set_option maxRecDepth 20000 in
theorem ggX2_find_X2_isName : GoodIn wsX2_find wsX2_isName := goodIn_r _ [9] (by decide +kernel) (by decide +kernel)
set_option maxRecDepth 20000 in
theorem gX2_find_X2_isName : GoodIn wsX2_find (va_wsS RX2 27 yX2_isName wsX2_isName) := goodIn_app (goodIn_of _ (by decide +kernel)) ggX2_find_X2_isName
set_option maxRecDepth 20000 in
theorem ggX2_find_X1_placeOf : GoodIn wsX2_find wsX1_placeOf := goodIn_r _ [14, 15, 16, 24, 25, 26] (by decide +kernel) (by decide +kernel)
set_option maxRecDepth 20000 in
theorem gX2_find_X1_placeOf : GoodIn wsX2_find (wsV RX2 72 RX1 yX1_placeOf wsX1_placeOf) := goodIn_app (goodIn_of _ (by decide +kernel)) ggX2_find_X1_placeOf
theorem dX2_find_0 : decode cX2_find 0 = .ok (.aload_n 0, 1) := by decide +kernel
theorem dX2_find_1 : decode cX2_find 1 = .ok (.iload_n 1, 1) := by decide +kernel
theorem dX2_find_2 : decode cX2_find 2 = .ok (.invokevirtual 23, 3) := by decide +kernel
theorem dX2_find_5 : decode cX2_find 5 = .ok (.astore 4, 2) := by decide +kernel
theorem dX2_find_7 : decode cX2_find 7 = .ok (.aload 4, 2) := by decide +kernel
theorem dX2_find_9 : decode cX2_find 9 = .ok (.ifnull 10, 3) := by decide +kernel
theorem dX2_find_12 : decode cX2_find 12 = .ok (.iload_n 2, 1) := by decide +kernel
theorem dX2_find_13 : decode cX2_find 13 = .ok (.invokestatic 27, 3) := by decide +kernel
theorem dX2_find_16 : decode cX2_find 16 = .ok (.ifCond .ne 5, 3) := by decide +kernel
theorem dX2_find_19 : decode cX2_find 19 = .ok (.iconst (-1), 1) := by decide +kernel
theorem dX2_find_20 : decode cX2_find 20 = .ok (.ireturn, 1) := by decide +kernel
theorem dX2_find_21 : decode cX2_find 21 = .ok (.aload 4, 2) := by decide +kernel
theorem dX2_find_23 : decode cX2_find 23 = .ok (.iload_n 2, 1) := by decide +kernel
theorem dX2_find_24 : decode cX2_find 24 = .ok (.iload_n 3, 1) := by decide +kernel
theorem dX2_find_25 : decode cX2_find 25 = .ok (.invokevirtual 72, 3) := by decide +kernel
theorem dX2_find_28 : decode cX2_find 28 = .ok (.istore 5, 2) := by decide +kernel
theorem dX2_find_30 : decode cX2_find 30 = .ok (.iload 5, 2) := by decide +kernel
theorem dX2_find_32 : decode cX2_find 32 = .ok (.iconst (-1), 1) := by decide +kernel
theorem dX2_find_33 : decode cX2_find 33 = .ok (.if_icmp .ne 8, 3) := by decide +kernel
theorem dX2_find_36 : decode cX2_find 36 = .ok (.bipush (-6), 2) := by decide +kernel
theorem dX2_find_38 : decode cX2_find 38 = .ok (.goto 5, 3) := by decide +kernel
theorem dX2_find_41 : decode cX2_find 41 = .ok (.iload 5, 2) := by decide +kernel
theorem dX2_find_43 : decode cX2_find 43 = .ok (.ireturn, 1) := by decide +kernel
set_option maxRecDepth 20000 in
theorem ggX2_has_X2_rowOf : GoodIn wsX2_has wsX2_rowOf := goodIn_r _ [5, 6, 20, 21, 22, 23, 24, 25, 26] (by decide +kernel) (by decide +kernel)
set_option maxRecDepth 20000 in
theorem gX2_has_X2_rowOf : GoodIn wsX2_has (wsV RX2 23 RX2 yX2_rowOf wsX2_rowOf) := goodIn_app (goodIn_of _ (by decide +kernel)) ggX2_has_X2_rowOf
set_option maxRecDepth 20000 in
theorem ggX2_has_X2_isName : GoodIn wsX2_has wsX2_isName := goodIn_r _ [9] (by decide +kernel) (by decide +kernel)
set_option maxRecDepth 20000 in
theorem gX2_has_X2_isName : GoodIn wsX2_has (va_wsS RX2 27 yX2_isName wsX2_isName) := goodIn_app (goodIn_of _ (by decide +kernel)) ggX2_has_X2_isName
set_option maxRecDepth 20000 in
theorem ggX2_has_X1_placeOf : GoodIn wsX2_has wsX1_placeOf := goodIn_r _ [14, 15, 16, 27, 28, 29] (by decide +kernel) (by decide +kernel)
set_option maxRecDepth 20000 in
theorem gX2_has_X1_placeOf : GoodIn wsX2_has (wsV RX2 72 RX1 yX1_placeOf wsX1_placeOf) := goodIn_app (goodIn_of _ (by decide +kernel)) ggX2_has_X1_placeOf
set_option maxRecDepth 20000 in
theorem ggX2_has_X2_oneIf : GoodIn wsX2_has wsX2_oneIf := goodIn_r _ [19] (by decide +kernel) (by decide +kernel)
set_option maxRecDepth 20000 in
theorem gX2_has_X2_oneIf : GoodIn wsX2_has (va_wsS RX2 76 yX2_oneIf wsX2_oneIf) := goodIn_app (goodIn_of _ (by decide +kernel)) ggX2_has_X2_oneIf
theorem dX2_has_0 : decode cX2_has 0 = .ok (.aload_n 0, 1) := by decide +kernel
theorem dX2_has_1 : decode cX2_has 1 = .ok (.iload_n 1, 1) := by decide +kernel
theorem dX2_has_2 : decode cX2_has 2 = .ok (.invokevirtual 23, 3) := by decide +kernel
theorem dX2_has_5 : decode cX2_has 5 = .ok (.astore_n 3, 1) := by decide +kernel
theorem dX2_has_6 : decode cX2_has 6 = .ok (.aload_n 3, 1) := by decide +kernel
theorem dX2_has_7 : decode cX2_has 7 = .ok (.ifnull 10, 3) := by decide +kernel
theorem dX2_has_10 : decode cX2_has 10 = .ok (.iload_n 2, 1) := by decide +kernel
theorem dX2_has_11 : decode cX2_has 11 = .ok (.invokestatic 27, 3) := by decide +kernel
theorem dX2_has_14 : decode cX2_has 14 = .ok (.ifCond .ne 5, 3) := by decide +kernel
theorem dX2_has_17 : decode cX2_has 17 = .ok (.iconst (-1), 1) := by decide +kernel
theorem dX2_has_18 : decode cX2_has 18 = .ok (.ireturn, 1) := by decide +kernel
theorem dX2_has_19 : decode cX2_has 19 = .ok (.aload_n 3, 1) := by decide +kernel
theorem dX2_has_20 : decode cX2_has 20 = .ok (.iload_n 2, 1) := by decide +kernel
theorem dX2_has_21 : decode cX2_has 21 = .ok (.iconst 0, 1) := by decide +kernel
theorem dX2_has_22 : decode cX2_has 22 = .ok (.invokevirtual 72, 3) := by decide +kernel
theorem dX2_has_25 : decode cX2_has 25 = .ok (.iconst (-1), 1) := by decide +kernel
theorem dX2_has_26 : decode cX2_has 26 = .ok (.if_icmp .eq 7, 3) := by decide +kernel
theorem dX2_has_29 : decode cX2_has 29 = .ok (.iconst 1, 1) := by decide +kernel
theorem dX2_has_30 : decode cX2_has 30 = .ok (.goto 4, 3) := by decide +kernel
theorem dX2_has_33 : decode cX2_has 33 = .ok (.iconst 0, 1) := by decide +kernel
theorem dX2_has_34 : decode cX2_has 34 = .ok (.invokestatic 76, 3) := by decide +kernel
theorem dX2_has_37 : decode cX2_has 37 = .ok (.ireturn, 1) := by decide +kernel
set_option maxRecDepth 20000 in
theorem ggX2_lose_X2_rowOf : GoodIn wsX2_lose wsX2_rowOf := goodIn_r _ [5, 6, 26, 27, 28, 29, 30, 31, 32] (by decide +kernel) (by decide +kernel)
set_option maxRecDepth 20000 in
theorem gX2_lose_X2_rowOf : GoodIn wsX2_lose (wsV RX2 23 RX2 yX2_rowOf wsX2_rowOf) := goodIn_app (goodIn_of _ (by decide +kernel)) ggX2_lose_X2_rowOf
set_option maxRecDepth 20000 in
theorem ggX2_lose_X2_isName : GoodIn wsX2_lose wsX2_isName := goodIn_r _ [9] (by decide +kernel) (by decide +kernel)
set_option maxRecDepth 20000 in
theorem gX2_lose_X2_isName : GoodIn wsX2_lose (va_wsS RX2 27 yX2_isName wsX2_isName) := goodIn_app (goodIn_of _ (by decide +kernel)) ggX2_lose_X2_isName
set_option maxRecDepth 20000 in
theorem ggX2_lose_X1_placeOf : GoodIn wsX2_lose wsX1_placeOf := goodIn_r _ [14, 15, 16, 33, 34, 35] (by decide +kernel) (by decide +kernel)
set_option maxRecDepth 20000 in
theorem gX2_lose_X1_placeOf : GoodIn wsX2_lose (wsV RX2 72 RX1 yX1_placeOf wsX1_placeOf) := goodIn_app (goodIn_of _ (by decide +kernel)) ggX2_lose_X1_placeOf
set_option maxRecDepth 20000 in
theorem ggX2_lose_X1_takeAt : GoodIn wsX2_lose wsX1_takeAt := goodIn_r _ [20, 16, 15, 21, 22, 23, 13, 24, 25, 33, 34, 35] (by decide +kernel) (by decide +kernel)
set_option maxRecDepth 20000 in
theorem gX2_lose_X1_takeAt : GoodIn wsX2_lose (wsV RX2 56 RX1 yX1_takeAt wsX1_takeAt) := goodIn_app (goodIn_of _ (by decide +kernel)) ggX2_lose_X1_takeAt
theorem dX2_lose_0 : decode cX2_lose 0 = .ok (.aload_n 0, 1) := by decide +kernel
theorem dX2_lose_1 : decode cX2_lose 1 = .ok (.iload_n 1, 1) := by decide +kernel
theorem dX2_lose_2 : decode cX2_lose 2 = .ok (.invokevirtual 23, 3) := by decide +kernel
theorem dX2_lose_5 : decode cX2_lose 5 = .ok (.astore 4, 2) := by decide +kernel
theorem dX2_lose_7 : decode cX2_lose 7 = .ok (.aload 4, 2) := by decide +kernel
theorem dX2_lose_9 : decode cX2_lose 9 = .ok (.ifnull 19, 3) := by decide +kernel
theorem dX2_lose_12 : decode cX2_lose 12 = .ok (.iload_n 2, 1) := by decide +kernel
theorem dX2_lose_13 : decode cX2_lose 13 = .ok (.invokestatic 27, 3) := by decide +kernel
theorem dX2_lose_16 : decode cX2_lose 16 = .ok (.ifCond .eq 12, 3) := by decide +kernel
theorem dX2_lose_19 : decode cX2_lose 19 = .ok (.iload_n 3, 1) := by decide +kernel
theorem dX2_lose_20 : decode cX2_lose 20 = .ok (.ifCond .lt 8, 3) := by decide +kernel
theorem dX2_lose_23 : decode cX2_lose 23 = .ok (.iload_n 3, 1) := by decide +kernel
theorem dX2_lose_24 : decode cX2_lose 24 = .ok (.iconst 2, 1) := by decide +kernel
theorem dX2_lose_25 : decode cX2_lose 25 = .ok (.if_icmp .le 5, 3) := by decide +kernel
theorem dX2_lose_28 : decode cX2_lose 28 = .ok (.iconst (-1), 1) := by decide +kernel
theorem dX2_lose_29 : decode cX2_lose 29 = .ok (.ireturn, 1) := by decide +kernel
theorem dX2_lose_30 : decode cX2_lose 30 = .ok (.aload 4, 2) := by decide +kernel
theorem dX2_lose_32 : decode cX2_lose 32 = .ok (.iload_n 2, 1) := by decide +kernel
theorem dX2_lose_33 : decode cX2_lose 33 = .ok (.iload_n 3, 1) := by decide +kernel
theorem dX2_lose_34 : decode cX2_lose 34 = .ok (.iconst 2, 1) := by decide +kernel
theorem dX2_lose_35 : decode cX2_lose 35 = .ok (.if_icmp .ne 7, 3) := by decide +kernel
theorem dX2_lose_38 : decode cX2_lose 38 = .ok (.iconst 1, 1) := by decide +kernel
theorem dX2_lose_39 : decode cX2_lose 39 = .ok (.goto 4, 3) := by decide +kernel
theorem dX2_lose_42 : decode cX2_lose 42 = .ok (.iconst 0, 1) := by decide +kernel
theorem dX2_lose_43 : decode cX2_lose 43 = .ok (.invokevirtual 72, 3) := by decide +kernel
theorem dX2_lose_46 : decode cX2_lose 46 = .ok (.istore 5, 2) := by decide +kernel
theorem dX2_lose_48 : decode cX2_lose 48 = .ok (.iload 5, 2) := by decide +kernel
theorem dX2_lose_50 : decode cX2_lose 50 = .ok (.iconst (-1), 1) := by decide +kernel
theorem dX2_lose_51 : decode cX2_lose 51 = .ok (.if_icmp .ne 5, 3) := by decide +kernel
theorem dX2_lose_54 : decode cX2_lose 54 = .ok (.iconst 0, 1) := by decide +kernel
theorem dX2_lose_55 : decode cX2_lose 55 = .ok (.ireturn, 1) := by decide +kernel
theorem dX2_lose_56 : decode cX2_lose 56 = .ok (.aload 4, 2) := by decide +kernel
theorem dX2_lose_58 : decode cX2_lose 58 = .ok (.iload 5, 2) := by decide +kernel
theorem dX2_lose_60 : decode cX2_lose 60 = .ok (.invokevirtual 56, 3) := by decide +kernel
theorem dX2_lose_63 : decode cX2_lose 63 = .ok (.pop, 1) := by decide +kernel
theorem dX2_lose_64 : decode cX2_lose 64 = .ok (.iconst 1, 1) := by decide +kernel
theorem dX2_lose_65 : decode cX2_lose 65 = .ok (.ireturn, 1) := by decide +kernel
set_option maxRecDepth 20000 in
theorem ggX2_all_X2_rowOf : GoodIn wsX2_all wsX2_rowOf := goodIn_r _ [5, 6, 38, 39, 40, 41, 42, 43, 44] (by decide +kernel) (by decide +kernel)
set_option maxRecDepth 20000 in
theorem gX2_all_X2_rowOf : GoodIn wsX2_all (wsV RX2 23 RX2 yX2_rowOf wsX2_rowOf) := goodIn_app (goodIn_of _ (by decide +kernel)) ggX2_all_X2_rowOf
set_option maxRecDepth 20000 in
theorem ggX2_all_X1_hasRoomFor : GoodIn wsX2_all wsX1_hasRoomFor := goodIn_r _ [11, 12, 35, 36, 37] (by decide +kernel) (by decide +kernel)
set_option maxRecDepth 20000 in
theorem gX2_all_X1_hasRoomFor : GoodIn wsX2_all (wsV RX2 31 RX1 yX1_hasRoomFor wsX1_hasRoomFor) := goodIn_app (goodIn_of _ (by decide +kernel)) ggX2_all_X1_hasRoomFor
set_option maxRecDepth 20000 in
theorem ggX2_all_X1_canPutAt : GoodIn wsX2_all wsX1_canPutAt := goodIn_r _ [16, 12, 35, 36, 37] (by decide +kernel) (by decide +kernel)
set_option maxRecDepth 20000 in
theorem gX2_all_X1_canPutAt : GoodIn wsX2_all (wsV RX2 69 RX1 yX1_canPutAt wsX1_canPutAt) := goodIn_app (goodIn_of _ (by decide +kernel)) ggX2_all_X1_canPutAt
set_option maxRecDepth 20000 in
theorem ggX2_all_X2_refused : GoodIn wsX2_all wsX2_refused := goodIn_r _ [20, 21, 22, 23, 24, 38, 39, 40, 41, 42, 43, 44] (by decide +kernel) (by decide +kernel)
set_option maxRecDepth 20000 in
theorem gX2_all_X2_refused : GoodIn wsX2_all (wsV RX2 62 RX2 yX2_refused wsX2_refused) := goodIn_app (goodIn_of _ (by decide +kernel)) ggX2_all_X2_refused
set_option maxRecDepth 20000 in
theorem ggX2_all_X1_putAllAt : GoodIn wsX2_all wsX1_putAllAt := goodIn_r _ [28, 12, 29, 30, 31, 32, 10, 33, 34, 35, 36, 37] (by decide +kernel) (by decide +kernel)
set_option maxRecDepth 20000 in
theorem gX2_all_X1_putAllAt : GoodIn wsX2_all (wsV RX2 80 RX1 yX1_putAllAt wsX1_putAllAt) := goodIn_app (goodIn_of _ (by decide +kernel)) ggX2_all_X1_putAllAt
theorem dX2_all_0 : decode cX2_all 0 = .ok (.aload_n 0, 1) := by decide +kernel
theorem dX2_all_1 : decode cX2_all 1 = .ok (.iload_n 1, 1) := by decide +kernel
theorem dX2_all_2 : decode cX2_all 2 = .ok (.invokevirtual 23, 3) := by decide +kernel
theorem dX2_all_5 : decode cX2_all 5 = .ok (.astore 4, 2) := by decide +kernel
theorem dX2_all_7 : decode cX2_all 7 = .ok (.aload_n 0, 1) := by decide +kernel
theorem dX2_all_8 : decode cX2_all 8 = .ok (.iload_n 3, 1) := by decide +kernel
theorem dX2_all_9 : decode cX2_all 9 = .ok (.invokevirtual 23, 3) := by decide +kernel
theorem dX2_all_12 : decode cX2_all 12 = .ok (.astore 5, 2) := by decide +kernel
theorem dX2_all_14 : decode cX2_all 14 = .ok (.aload 4, 2) := by decide +kernel
theorem dX2_all_16 : decode cX2_all 16 = .ok (.ifnull 15, 3) := by decide +kernel
theorem dX2_all_19 : decode cX2_all 19 = .ok (.aload 5, 2) := by decide +kernel
theorem dX2_all_21 : decode cX2_all 21 = .ok (.ifnull 10, 3) := by decide +kernel
theorem dX2_all_24 : decode cX2_all 24 = .ok (.aload 4, 2) := by decide +kernel
theorem dX2_all_26 : decode cX2_all 26 = .ok (.aload 5, 2) := by decide +kernel
theorem dX2_all_28 : decode cX2_all 28 = .ok (.if_acmp .ne 5, 3) := by decide +kernel
theorem dX2_all_31 : decode cX2_all 31 = .ok (.iconst (-1), 1) := by decide +kernel
theorem dX2_all_32 : decode cX2_all 32 = .ok (.ireturn, 1) := by decide +kernel
theorem dX2_all_33 : decode cX2_all 33 = .ok (.aload 5, 2) := by decide +kernel
theorem dX2_all_35 : decode cX2_all 35 = .ok (.getfield 34, 3) := by decide +kernel
theorem dX2_all_38 : decode cX2_all 38 = .ok (.ifCond .ne 9, 3) := by decide +kernel
theorem dX2_all_41 : decode cX2_all 41 = .ok (.aload 4, 2) := by decide +kernel
theorem dX2_all_43 : decode cX2_all 43 = .ok (.getfield 34, 3) := by decide +kernel
theorem dX2_all_46 : decode cX2_all 46 = .ok (.ireturn, 1) := by decide +kernel
theorem dX2_all_47 : decode cX2_all 47 = .ok (.aload 4, 2) := by decide +kernel
theorem dX2_all_49 : decode cX2_all 49 = .ok (.aload 5, 2) := by decide +kernel
theorem dX2_all_51 : decode cX2_all 51 = .ok (.getfield 34, 3) := by decide +kernel
theorem dX2_all_54 : decode cX2_all 54 = .ok (.invokevirtual 31, 3) := by decide +kernel
theorem dX2_all_57 : decode cX2_all 57 = .ok (.ifCond .ne 6, 3) := by decide +kernel
theorem dX2_all_60 : decode cX2_all 60 = .ok (.bipush (-3), 2) := by decide +kernel
theorem dX2_all_62 : decode cX2_all 62 = .ok (.ireturn, 1) := by decide +kernel
theorem dX2_all_63 : decode cX2_all 63 = .ok (.iload_n 2, 1) := by decide +kernel
theorem dX2_all_64 : decode cX2_all 64 = .ok (.iconst (-1), 1) := by decide +kernel
theorem dX2_all_65 : decode cX2_all 65 = .ok (.if_icmp .ne 11, 3) := by decide +kernel
theorem dX2_all_68 : decode cX2_all 68 = .ok (.aload 4, 2) := by decide +kernel
theorem dX2_all_70 : decode cX2_all 70 = .ok (.getfield 34, 3) := by decide +kernel
theorem dX2_all_73 : decode cX2_all 73 = .ok (.goto 4, 3) := by decide +kernel
theorem dX2_all_76 : decode cX2_all 76 = .ok (.iload_n 2, 1) := by decide +kernel
theorem dX2_all_77 : decode cX2_all 77 = .ok (.istore 6, 2) := by decide +kernel
theorem dX2_all_79 : decode cX2_all 79 = .ok (.aload 4, 2) := by decide +kernel
theorem dX2_all_81 : decode cX2_all 81 = .ok (.iload 6, 2) := by decide +kernel
theorem dX2_all_83 : decode cX2_all 83 = .ok (.invokevirtual 69, 3) := by decide +kernel
theorem dX2_all_86 : decode cX2_all 86 = .ok (.ifCond .ne 10, 3) := by decide +kernel
theorem dX2_all_89 : decode cX2_all 89 = .ok (.aload_n 0, 1) := by decide +kernel
theorem dX2_all_90 : decode cX2_all 90 = .ok (.bipush (-5), 2) := by decide +kernel
theorem dX2_all_92 : decode cX2_all 92 = .ok (.invokevirtual 62, 3) := by decide +kernel
theorem dX2_all_95 : decode cX2_all 95 = .ok (.ireturn, 1) := by decide +kernel
theorem dX2_all_96 : decode cX2_all 96 = .ok (.aload 4, 2) := by decide +kernel
theorem dX2_all_98 : decode cX2_all 98 = .ok (.iload 6, 2) := by decide +kernel
theorem dX2_all_100 : decode cX2_all 100 = .ok (.aload 5, 2) := by decide +kernel
theorem dX2_all_102 : decode cX2_all 102 = .ok (.invokevirtual 80, 3) := by decide +kernel
theorem dX2_all_105 : decode cX2_all 105 = .ok (.aload 4, 2) := by decide +kernel
theorem dX2_all_107 : decode cX2_all 107 = .ok (.getfield 34, 3) := by decide +kernel
theorem dX2_all_110 : decode cX2_all 110 = .ok (.ireturn, 1) := by decide +kernel
set_option maxRecDepth 20000 in
theorem ggX2_clear_X2_rowOf : GoodIn wsX2_clear wsX2_rowOf := goodIn_r _ [5, 6, 17, 18, 19, 20, 21, 22, 23] (by decide +kernel) (by decide +kernel)
set_option maxRecDepth 20000 in
theorem gX2_clear_X2_rowOf : GoodIn wsX2_clear (wsV RX2 23 RX2 yX2_rowOf wsX2_rowOf) := goodIn_app (goodIn_of _ (by decide +kernel)) ggX2_clear_X2_rowOf
set_option maxRecDepth 20000 in
theorem ggX2_clear_X1_keepFirst : GoodIn wsX2_clear wsX1_keepFirst := goodIn_r _ [11, 12, 13, 14, 15, 16] (by decide +kernel) (by decide +kernel)
set_option maxRecDepth 20000 in
theorem gX2_clear_X1_keepFirst : GoodIn wsX2_clear (wsV RX2 84 RX1 yX1_keepFirst wsX1_keepFirst) := goodIn_app (goodIn_of _ (by decide +kernel)) ggX2_clear_X1_keepFirst
theorem dX2_clear_0 : decode cX2_clear 0 = .ok (.aload_n 0, 1) := by decide +kernel
theorem dX2_clear_1 : decode cX2_clear 1 = .ok (.iload_n 1, 1) := by decide +kernel
theorem dX2_clear_2 : decode cX2_clear 2 = .ok (.invokevirtual 23, 3) := by decide +kernel
theorem dX2_clear_5 : decode cX2_clear 5 = .ok (.astore_n 2, 1) := by decide +kernel
theorem dX2_clear_6 : decode cX2_clear 6 = .ok (.aload_n 2, 1) := by decide +kernel
theorem dX2_clear_7 : decode cX2_clear 7 = .ok (.ifnonnull 5, 3) := by decide +kernel
theorem dX2_clear_10 : decode cX2_clear 10 = .ok (.iconst (-1), 1) := by decide +kernel
theorem dX2_clear_11 : decode cX2_clear 11 = .ok (.ireturn, 1) := by decide +kernel
theorem dX2_clear_12 : decode cX2_clear 12 = .ok (.aload_n 2, 1) := by decide +kernel
theorem dX2_clear_13 : decode cX2_clear 13 = .ok (.getfield 34, 3) := by decide +kernel
theorem dX2_clear_16 : decode cX2_clear 16 = .ok (.istore_n 3, 1) := by decide +kernel
theorem dX2_clear_17 : decode cX2_clear 17 = .ok (.aload_n 2, 1) := by decide +kernel
theorem dX2_clear_18 : decode cX2_clear 18 = .ok (.iconst 0, 1) := by decide +kernel
theorem dX2_clear_19 : decode cX2_clear 19 = .ok (.invokevirtual 84, 3) := by decide +kernel
theorem dX2_clear_22 : decode cX2_clear 22 = .ok (.iload_n 3, 1) := by decide +kernel
theorem dX2_clear_23 : decode cX2_clear 23 = .ok (.ireturn, 1) := by decide +kernel
set_option maxRecDepth 20000 in
theorem ggX2_copy_X2_rowOf : GoodIn wsX2_copy wsX2_rowOf := goodIn_r _ [6, 7, 21, 22, 23, 24, 25, 26, 27] (by decide +kernel) (by decide +kernel)
set_option maxRecDepth 20000 in
theorem gX2_copy_X2_rowOf : GoodIn wsX2_copy (wsV RX2 23 RX2 yX2_rowOf wsX2_rowOf) := goodIn_app (goodIn_of _ (by decide +kernel)) ggX2_copy_X2_rowOf
set_option maxRecDepth 20000 in
theorem ggX2_copy_X0_leave : GoodIn wsX2_copy wsX0_leave := goodIn_r _ [12, 13, 31, 32, 33, 34, 35, 36] (by decide +kernel) (by decide +kernel)
set_option maxRecDepth 20000 in
theorem gX2_copy_X0_leave : GoodIn wsX2_copy (wsV RX2 88 RX0 yX0_leave wsX0_leave) := goodIn_app (goodIn_of _ (by decide +kernel)) ggX2_copy_X0_leave
set_option maxRecDepth 20000 in
theorem ggX2_copy_X1_becomeLike : GoodIn wsX2_copy wsX1_becomeLike := goodIn_r _ [18, 19, 20, 28, 29, 30] (by decide +kernel) (by decide +kernel)
set_option maxRecDepth 20000 in
theorem gX2_copy_X1_becomeLike : GoodIn wsX2_copy (wsV RX2 92 RX1 yX1_becomeLike wsX1_becomeLike) := goodIn_app (goodIn_of _ (by decide +kernel)) ggX2_copy_X1_becomeLike
theorem dX2_copy_0 : decode cX2_copy 0 = .ok (.aload_n 0, 1) := by decide +kernel
theorem dX2_copy_1 : decode cX2_copy 1 = .ok (.iload_n 1, 1) := by decide +kernel
theorem dX2_copy_2 : decode cX2_copy 2 = .ok (.invokevirtual 23, 3) := by decide +kernel
theorem dX2_copy_5 : decode cX2_copy 5 = .ok (.astore_n 3, 1) := by decide +kernel
theorem dX2_copy_6 : decode cX2_copy 6 = .ok (.aload_n 0, 1) := by decide +kernel
theorem dX2_copy_7 : decode cX2_copy 7 = .ok (.iload_n 2, 1) := by decide +kernel
theorem dX2_copy_8 : decode cX2_copy 8 = .ok (.invokevirtual 23, 3) := by decide +kernel
theorem dX2_copy_11 : decode cX2_copy 11 = .ok (.astore 4, 2) := by decide +kernel
theorem dX2_copy_13 : decode cX2_copy 13 = .ok (.aload_n 3, 1) := by decide +kernel
theorem dX2_copy_14 : decode cX2_copy 14 = .ok (.ifnull 14, 3) := by decide +kernel
theorem dX2_copy_17 : decode cX2_copy 17 = .ok (.aload 4, 2) := by decide +kernel
theorem dX2_copy_19 : decode cX2_copy 19 = .ok (.ifnull 9, 3) := by decide +kernel
theorem dX2_copy_22 : decode cX2_copy 22 = .ok (.aload_n 3, 1) := by decide +kernel
theorem dX2_copy_23 : decode cX2_copy 23 = .ok (.aload 4, 2) := by decide +kernel
theorem dX2_copy_25 : decode cX2_copy 25 = .ok (.if_acmp .ne 5, 3) := by decide +kernel
theorem dX2_copy_28 : decode cX2_copy 28 = .ok (.iconst (-1), 1) := by decide +kernel
theorem dX2_copy_29 : decode cX2_copy 29 = .ok (.ireturn, 1) := by decide +kernel
theorem dX2_copy_30 : decode cX2_copy 30 = .ok (.iconst 0, 1) := by decide +kernel
theorem dX2_copy_31 : decode cX2_copy 31 = .ok (.istore 5, 2) := by decide +kernel
theorem dX2_copy_33 : decode cX2_copy 33 = .ok (.iload 5, 2) := by decide +kernel
theorem dX2_copy_35 : decode cX2_copy 35 = .ok (.aload_n 0, 1) := by decide +kernel
theorem dX2_copy_36 : decode cX2_copy 36 = .ok (.getfield 17, 3) := by decide +kernel
theorem dX2_copy_39 : decode cX2_copy 39 = .ok (.arraylength, 1) := by decide +kernel
theorem dX2_copy_40 : decode cX2_copy 40 = .ok (.if_icmp .ge 20, 3) := by decide +kernel
theorem dX2_copy_43 : decode cX2_copy 43 = .ok (.aload_n 0, 1) := by decide +kernel
theorem dX2_copy_44 : decode cX2_copy 44 = .ok (.getfield 17, 3) := by decide +kernel
theorem dX2_copy_47 : decode cX2_copy 47 = .ok (.iload 5, 2) := by decide +kernel
theorem dX2_copy_49 : decode cX2_copy 49 = .ok (.aaload, 1) := by decide +kernel
theorem dX2_copy_50 : decode cX2_copy 50 = .ok (.aload_n 3, 1) := by decide +kernel
theorem dX2_copy_51 : decode cX2_copy 51 = .ok (.invokevirtual 88, 3) := by decide +kernel
theorem dX2_copy_54 : decode cX2_copy 54 = .ok (.iinc 5 1, 3) := by decide +kernel
theorem dX2_copy_57 : decode cX2_copy 57 = .ok (.goto (-24), 3) := by decide +kernel
theorem dX2_copy_60 : decode cX2_copy 60 = .ok (.aload_n 3, 1) := by decide +kernel
theorem dX2_copy_61 : decode cX2_copy 61 = .ok (.aload 4, 2) := by decide +kernel
theorem dX2_copy_63 : decode cX2_copy 63 = .ok (.invokevirtual 92, 3) := by decide +kernel
theorem dX2_copy_66 : decode cX2_copy 66 = .ok (.aload_n 3, 1) := by decide +kernel
theorem dX2_copy_67 : decode cX2_copy 67 = .ok (.getfield 34, 3) := by decide +kernel
theorem dX2_copy_70 : decode cX2_copy 70 = .ok (.ireturn, 1) := by decide +kernel
set_option maxRecDepth 20000 in
theorem ggX2_turn_X2_rowOf : GoodIn wsX2_turn wsX2_rowOf := goodIn_r _ [5, 6, 21, 22, 23, 24, 25, 26, 27] (by decide +kernel) (by decide +kernel)
set_option maxRecDepth 20000 in
theorem gX2_turn_X2_rowOf : GoodIn wsX2_turn (wsV RX2 23 RX2 yX2_rowOf wsX2_rowOf) := goodIn_app (goodIn_of _ (by decide +kernel)) ggX2_turn_X2_rowOf
set_option maxRecDepth 20000 in
theorem ggX2_turn_X1_turnRound : GoodIn wsX2_turn wsX1_turnRound := goodIn_r _ [11, 12, 13, 14, 15, 16, 10, 17, 18, 19, 20] (by decide +kernel) (by decide +kernel)
set_option maxRecDepth 20000 in
theorem gX2_turn_X1_turnRound : GoodIn wsX2_turn (wsV RX2 95 RX1 yX1_turnRound wsX1_turnRound) := goodIn_app (goodIn_of _ (by decide +kernel)) ggX2_turn_X1_turnRound
theorem dX2_turn_0 : decode cX2_turn 0 = .ok (.aload_n 0, 1) := by decide +kernel
theorem dX2_turn_1 : decode cX2_turn 1 = .ok (.iload_n 1, 1) := by decide +kernel
theorem dX2_turn_2 : decode cX2_turn 2 = .ok (.invokevirtual 23, 3) := by decide +kernel
theorem dX2_turn_5 : decode cX2_turn 5 = .ok (.astore_n 2, 1) := by decide +kernel
theorem dX2_turn_6 : decode cX2_turn 6 = .ok (.aload_n 2, 1) := by decide +kernel
theorem dX2_turn_7 : decode cX2_turn 7 = .ok (.ifnonnull 5, 3) := by decide +kernel
theorem dX2_turn_10 : decode cX2_turn 10 = .ok (.iconst (-1), 1) := by decide +kernel
theorem dX2_turn_11 : decode cX2_turn 11 = .ok (.ireturn, 1) := by decide +kernel
theorem dX2_turn_12 : decode cX2_turn 12 = .ok (.aload_n 2, 1) := by decide +kernel
theorem dX2_turn_13 : decode cX2_turn 13 = .ok (.invokevirtual 95, 3) := by decide +kernel
theorem dX2_turn_16 : decode cX2_turn 16 = .ok (.aload_n 2, 1) := by decide +kernel
theorem dX2_turn_17 : decode cX2_turn 17 = .ok (.getfield 34, 3) := by decide +kernel
theorem dX2_turn_20 : decode cX2_turn 20 = .ok (.ireturn, 1) := by decide +kernel
set_option maxRecDepth 20000 in
theorem ggX2_weave_X2_rowOf : GoodIn wsX2_weave wsX2_rowOf := goodIn_r _ [5, 6, 30, 31, 32, 33, 34, 35, 36] (by decide +kernel) (by decide +kernel)
set_option maxRecDepth 20000 in
theorem gX2_weave_X2_rowOf : GoodIn wsX2_weave (wsV RX2 23 RX2 yX2_rowOf wsX2_rowOf) := goodIn_app (goodIn_of _ (by decide +kernel)) ggX2_weave_X2_rowOf
set_option maxRecDepth 20000 in
theorem ggX2_weave_X1_hasRoomFor : GoodIn wsX2_weave wsX1_hasRoomFor := goodIn_r _ [11, 12, 27, 28, 29] (by decide +kernel) (by decide +kernel)
set_option maxRecDepth 20000 in
theorem gX2_weave_X1_hasRoomFor : GoodIn wsX2_weave (wsV RX2 31 RX1 yX1_hasRoomFor wsX1_hasRoomFor) := goodIn_app (goodIn_of _ (by decide +kernel)) ggX2_weave_X1_hasRoomFor
set_option maxRecDepth 20000 in
theorem ggX2_weave_X1_weaveIn : GoodIn wsX2_weave wsX1_weaveIn := goodIn_r _ [16, 12, 17, 18, 19, 20, 21, 22, 23, 24, 10, 25, 26, 27, 28, 29] (by decide +kernel) (by decide +kernel)
set_option maxRecDepth 20000 in
theorem gX2_weave_X1_weaveIn : GoodIn wsX2_weave (wsV RX2 98 RX1 yX1_weaveIn wsX1_weaveIn) := goodIn_app (goodIn_of _ (by decide +kernel)) ggX2_weave_X1_weaveIn
theorem dX2_weave_0 : decode cX2_weave 0 = .ok (.aload_n 0, 1) := by decide +kernel
theorem dX2_weave_1 : decode cX2_weave 1 = .ok (.iload_n 1, 1) := by decide +kernel
theorem dX2_weave_2 : decode cX2_weave 2 = .ok (.invokevirtual 23, 3) := by decide +kernel
theorem dX2_weave_5 : decode cX2_weave 5 = .ok (.astore_n 3, 1) := by decide +kernel
theorem dX2_weave_6 : decode cX2_weave 6 = .ok (.aload_n 0, 1) := by decide +kernel
theorem dX2_weave_7 : decode cX2_weave 7 = .ok (.iload_n 2, 1) := by decide +kernel
theorem dX2_weave_8 : decode cX2_weave 8 = .ok (.invokevirtual 23, 3) := by decide +kernel
theorem dX2_weave_11 : decode cX2_weave 11 = .ok (.astore 4, 2) := by decide +kernel
theorem dX2_weave_13 : decode cX2_weave 13 = .ok (.aload_n 3, 1) := by decide +kernel
theorem dX2_weave_14 : decode cX2_weave 14 = .ok (.ifnull 14, 3) := by decide +kernel
theorem dX2_weave_17 : decode cX2_weave 17 = .ok (.aload 4, 2) := by decide +kernel
theorem dX2_weave_19 : decode cX2_weave 19 = .ok (.ifnull 9, 3) := by decide +kernel
theorem dX2_weave_22 : decode cX2_weave 22 = .ok (.aload_n 3, 1) := by decide +kernel
theorem dX2_weave_23 : decode cX2_weave 23 = .ok (.aload 4, 2) := by decide +kernel
theorem dX2_weave_25 : decode cX2_weave 25 = .ok (.if_acmp .ne 5, 3) := by decide +kernel
theorem dX2_weave_28 : decode cX2_weave 28 = .ok (.iconst (-1), 1) := by decide +kernel
theorem dX2_weave_29 : decode cX2_weave 29 = .ok (.ireturn, 1) := by decide +kernel
theorem dX2_weave_30 : decode cX2_weave 30 = .ok (.aload_n 3, 1) := by decide +kernel
theorem dX2_weave_31 : decode cX2_weave 31 = .ok (.aload 4, 2) := by decide +kernel
theorem dX2_weave_33 : decode cX2_weave 33 = .ok (.getfield 34, 3) := by decide +kernel
theorem dX2_weave_36 : decode cX2_weave 36 = .ok (.invokevirtual 31, 3) := by decide +kernel
theorem dX2_weave_39 : decode cX2_weave 39 = .ok (.ifCond .ne 6, 3) := by decide +kernel
theorem dX2_weave_42 : decode cX2_weave 42 = .ok (.bipush (-3), 2) := by decide +kernel
theorem dX2_weave_44 : decode cX2_weave 44 = .ok (.ireturn, 1) := by decide +kernel
theorem dX2_weave_45 : decode cX2_weave 45 = .ok (.aload 4, 2) := by decide +kernel
theorem dX2_weave_47 : decode cX2_weave 47 = .ok (.getfield 34, 3) := by decide +kernel
theorem dX2_weave_50 : decode cX2_weave 50 = .ok (.ifCond .le 9, 3) := by decide +kernel
theorem dX2_weave_53 : decode cX2_weave 53 = .ok (.aload_n 3, 1) := by decide +kernel
theorem dX2_weave_54 : decode cX2_weave 54 = .ok (.aload 4, 2) := by decide +kernel
theorem dX2_weave_56 : decode cX2_weave 56 = .ok (.invokevirtual 98, 3) := by decide +kernel
theorem dX2_weave_59 : decode cX2_weave 59 = .ok (.aload_n 3, 1) := by decide +kernel
theorem dX2_weave_60 : decode cX2_weave 60 = .ok (.getfield 34, 3) := by decide +kernel
theorem dX2_weave_63 : decode cX2_weave 63 = .ok (.ireturn, 1) := by decide +kernel
set_option maxRecDepth 20000 in
theorem ggX2_prune_X2_rowOf : GoodIn wsX2_prune wsX2_rowOf := goodIn_r _ [5, 6, 19, 20, 21, 22, 23, 24, 25] (by decide +kernel) (by decide +kernel)
set_option maxRecDepth 20000 in
theorem gX2_prune_X2_rowOf : GoodIn wsX2_prune (wsV RX2 23 RX2 yX2_rowOf wsX2_rowOf) := goodIn_app (goodIn_of _ (by decide +kernel)) ggX2_prune_X2_rowOf
set_option maxRecDepth 20000 in
theorem ggX2_prune_X1_takeRepeats : GoodIn wsX2_prune wsX1_takeRepeats := goodIn_r _ [11, 12, 13, 14, 15, 16, 10, 17, 18, 26, 27, 28] (by decide +kernel) (by decide +kernel)
set_option maxRecDepth 20000 in
theorem gX2_prune_X1_takeRepeats : GoodIn wsX2_prune (wsV RX2 101 RX1 yX1_takeRepeats wsX1_takeRepeats) := goodIn_app (goodIn_of _ (by decide +kernel)) ggX2_prune_X1_takeRepeats
theorem dX2_prune_0 : decode cX2_prune 0 = .ok (.aload_n 0, 1) := by decide +kernel
theorem dX2_prune_1 : decode cX2_prune 1 = .ok (.iload_n 1, 1) := by decide +kernel
theorem dX2_prune_2 : decode cX2_prune 2 = .ok (.invokevirtual 23, 3) := by decide +kernel
theorem dX2_prune_5 : decode cX2_prune 5 = .ok (.astore_n 2, 1) := by decide +kernel
theorem dX2_prune_6 : decode cX2_prune 6 = .ok (.aload_n 2, 1) := by decide +kernel
theorem dX2_prune_7 : decode cX2_prune 7 = .ok (.ifnonnull 5, 3) := by decide +kernel
theorem dX2_prune_10 : decode cX2_prune 10 = .ok (.iconst (-1), 1) := by decide +kernel
theorem dX2_prune_11 : decode cX2_prune 11 = .ok (.ireturn, 1) := by decide +kernel
theorem dX2_prune_12 : decode cX2_prune 12 = .ok (.aload_n 2, 1) := by decide +kernel
theorem dX2_prune_13 : decode cX2_prune 13 = .ok (.invokevirtual 101, 3) := by decide +kernel
theorem dX2_prune_16 : decode cX2_prune 16 = .ok (.ireturn, 1) := by decide +kernel
set_option maxRecDepth 20000 in
theorem ggX2_size_X2_rowOf : GoodIn wsX2_size wsX2_rowOf := goodIn_r _ [5, 6, 10, 11, 12, 13, 14, 15, 16] (by decide +kernel) (by decide +kernel)
set_option maxRecDepth 20000 in
theorem gX2_size_X2_rowOf : GoodIn wsX2_size (wsV RX2 23 RX2 yX2_rowOf wsX2_rowOf) := goodIn_app (goodIn_of _ (by decide +kernel)) ggX2_size_X2_rowOf
theorem dX2_size_0 : decode cX2_size 0 = .ok (.aload_n 0, 1) := by decide +kernel
theorem dX2_size_1 : decode cX2_size 1 = .ok (.iload_n 1, 1) := by decide +kernel
theorem dX2_size_2 : decode cX2_size 2 = .ok (.invokevirtual 23, 3) := by decide +kernel
theorem dX2_size_5 : decode cX2_size 5 = .ok (.astore_n 2, 1) := by decide +kernel
theorem dX2_size_6 : decode cX2_size 6 = .ok (.aload_n 2, 1) := by decide +kernel
theorem dX2_size_7 : decode cX2_size 7 = .ok (.ifnonnull 5, 3) := by decide +kernel
theorem dX2_size_10 : decode cX2_size 10 = .ok (.iconst (-1), 1) := by decide +kernel
theorem dX2_size_11 : decode cX2_size 11 = .ok (.ireturn, 1) := by decide +kernel
theorem dX2_size_12 : decode cX2_size 12 = .ok (.aload_n 2, 1) := by decide +kernel
theorem dX2_size_13 : decode cX2_size 13 = .ok (.getfield 34, 3) := by decide +kernel
theorem dX2_size_16 : decode cX2_size 16 = .ok (.ireturn, 1) := by decide +kernel
set_option maxRecDepth 20000 in
theorem ggX2_sum_X2_rowOf : GoodIn wsX2_sum wsX2_rowOf := goodIn_r _ [5, 6, 15, 16, 17, 18, 19, 20, 21] (by decide +kernel) (by decide +kernel)
set_option maxRecDepth 20000 in
theorem gX2_sum_X2_rowOf : GoodIn wsX2_sum (wsV RX2 23 RX2 yX2_rowOf wsX2_rowOf) := goodIn_app (goodIn_of _ (by decide +kernel)) ggX2_sum_X2_rowOf
set_option maxRecDepth 20000 in
theorem ggX2_sum_X1_number : GoodIn wsX2_sum wsX1_number := goodIn_r _ [11, 12, 13, 14, 22, 23, 24] (by decide +kernel) (by decide +kernel)
set_option maxRecDepth 20000 in
theorem gX2_sum_X1_number : GoodIn wsX2_sum (wsV RX2 105 RX1 yX1_number wsX1_number) := goodIn_app (goodIn_of _ (by decide +kernel)) ggX2_sum_X1_number
theorem dX2_sum_0 : decode cX2_sum 0 = .ok (.aload_n 0, 1) := by decide +kernel
theorem dX2_sum_1 : decode cX2_sum 1 = .ok (.iload_n 1, 1) := by decide +kernel
theorem dX2_sum_2 : decode cX2_sum 2 = .ok (.invokevirtual 23, 3) := by decide +kernel
theorem dX2_sum_5 : decode cX2_sum 5 = .ok (.astore_n 2, 1) := by decide +kernel
theorem dX2_sum_6 : decode cX2_sum 6 = .ok (.aload_n 2, 1) := by decide +kernel
theorem dX2_sum_7 : decode cX2_sum 7 = .ok (.ifnonnull 5, 3) := by decide +kernel
theorem dX2_sum_10 : decode cX2_sum 10 = .ok (.iconst (-1), 1) := by decide +kernel
theorem dX2_sum_11 : decode cX2_sum 11 = .ok (.ireturn, 1) := by decide +kernel
theorem dX2_sum_12 : decode cX2_sum 12 = .ok (.aload_n 2, 1) := by decide +kernel
theorem dX2_sum_13 : decode cX2_sum 13 = .ok (.invokevirtual 105, 3) := by decide +kernel
theorem dX2_sum_16 : decode cX2_sum 16 = .ok (.ireturn, 1) := by decide +kernel
set_option maxRecDepth 20000 in
theorem ggX2_peg_X2_pegOf : GoodIn wsX2_peg wsX2_pegOf := goodIn_r _ [5, 6, 36, 37, 38, 39, 40, 41, 42] (by decide +kernel) (by decide +kernel)
set_option maxRecDepth 20000 in
theorem gX2_peg_X2_pegOf : GoodIn wsX2_peg (wsV RX2 108 RX2 yX2_pegOf wsX2_pegOf) := goodIn_app (goodIn_of _ (by decide +kernel)) ggX2_peg_X2_pegOf
set_option maxRecDepth 20000 in
theorem ggX2_peg_X2_rowOf : GoodIn wsX2_peg wsX2_rowOf := goodIn_r _ [10, 11, 36, 37, 38, 39, 40, 41, 42] (by decide +kernel) (by decide +kernel)
set_option maxRecDepth 20000 in
theorem gX2_peg_X2_rowOf : GoodIn wsX2_peg (wsV RX2 23 RX2 yX2_rowOf wsX2_rowOf) := goodIn_app (goodIn_of _ (by decide +kernel)) ggX2_peg_X2_rowOf
set_option maxRecDepth 20000 in
theorem ggX2_peg_X1_canPutAt : GoodIn wsX2_peg wsX1_canPutAt := goodIn_r _ [16, 17, 43, 44, 45] (by decide +kernel) (by decide +kernel)
set_option maxRecDepth 20000 in
theorem gX2_peg_X1_canPutAt : GoodIn wsX2_peg (wsV RX2 69 RX1 yX1_canPutAt wsX1_canPutAt) := goodIn_app (goodIn_of _ (by decide +kernel)) ggX2_peg_X1_canPutAt
set_option maxRecDepth 20000 in
theorem ggX2_peg_X2_refused : GoodIn wsX2_peg wsX2_refused := goodIn_r _ [21, 22, 23, 24, 25, 36, 37, 38, 39, 40, 41, 42] (by decide +kernel) (by decide +kernel)
set_option maxRecDepth 20000 in
theorem gX2_peg_X2_refused : GoodIn wsX2_peg (wsV RX2 62 RX2 yX2_refused wsX2_refused) := goodIn_app (goodIn_of _ (by decide +kernel)) ggX2_peg_X2_refused
set_option maxRecDepth 20000 in
theorem ggX2_peg_X0_standIn : GoodIn wsX2_peg wsX0_standIn := goodIn_r _ [30, 31, 32, 33, 34, 35, 46, 47, 48, 49, 50, 51, 43, 44, 45] (by decide +kernel) (by decide +kernel)
set_option maxRecDepth 20000 in
theorem gX2_peg_X0_standIn : GoodIn wsX2_peg (wsV RX2 112 RX0 yX0_standIn wsX0_standIn) := goodIn_app (goodIn_of _ (by decide +kernel)) ggX2_peg_X0_standIn
theorem dX2_peg_0 : decode cX2_peg 0 = .ok (.aload_n 0, 1) := by decide +kernel
theorem dX2_peg_1 : decode cX2_peg 1 = .ok (.iload_n 1, 1) := by decide +kernel
theorem dX2_peg_2 : decode cX2_peg 2 = .ok (.invokevirtual 108, 3) := by decide +kernel
theorem dX2_peg_5 : decode cX2_peg 5 = .ok (.astore 4, 2) := by decide +kernel
theorem dX2_peg_7 : decode cX2_peg 7 = .ok (.aload_n 0, 1) := by decide +kernel
theorem dX2_peg_8 : decode cX2_peg 8 = .ok (.iload_n 2, 1) := by decide +kernel
theorem dX2_peg_9 : decode cX2_peg 9 = .ok (.invokevirtual 23, 3) := by decide +kernel
theorem dX2_peg_12 : decode cX2_peg 12 = .ok (.astore 5, 2) := by decide +kernel
theorem dX2_peg_14 : decode cX2_peg 14 = .ok (.aload 4, 2) := by decide +kernel
theorem dX2_peg_16 : decode cX2_peg 16 = .ok (.ifnull 8, 3) := by decide +kernel
theorem dX2_peg_19 : decode cX2_peg 19 = .ok (.aload 5, 2) := by decide +kernel
theorem dX2_peg_21 : decode cX2_peg 21 = .ok (.ifnonnull 5, 3) := by decide +kernel
theorem dX2_peg_24 : decode cX2_peg 24 = .ok (.iconst (-1), 1) := by decide +kernel
theorem dX2_peg_25 : decode cX2_peg 25 = .ok (.ireturn, 1) := by decide +kernel
theorem dX2_peg_26 : decode cX2_peg 26 = .ok (.aload 5, 2) := by decide +kernel
theorem dX2_peg_28 : decode cX2_peg 28 = .ok (.iload_n 3, 1) := by decide +kernel
theorem dX2_peg_29 : decode cX2_peg 29 = .ok (.invokevirtual 69, 3) := by decide +kernel
theorem dX2_peg_32 : decode cX2_peg 32 = .ok (.ifCond .ne 10, 3) := by decide +kernel
theorem dX2_peg_35 : decode cX2_peg 35 = .ok (.aload_n 0, 1) := by decide +kernel
theorem dX2_peg_36 : decode cX2_peg 36 = .ok (.bipush (-5), 2) := by decide +kernel
theorem dX2_peg_38 : decode cX2_peg 38 = .ok (.invokevirtual 62, 3) := by decide +kernel
theorem dX2_peg_41 : decode cX2_peg 41 = .ok (.ireturn, 1) := by decide +kernel
theorem dX2_peg_42 : decode cX2_peg 42 = .ok (.aload 4, 2) := by decide +kernel
theorem dX2_peg_44 : decode cX2_peg 44 = .ok (.aload 5, 2) := by decide +kernel
theorem dX2_peg_46 : decode cX2_peg 46 = .ok (.iload_n 3, 1) := by decide +kernel
theorem dX2_peg_47 : decode cX2_peg 47 = .ok (.invokevirtual 112, 3) := by decide +kernel
theorem dX2_peg_50 : decode cX2_peg 50 = .ok (.iload_n 3, 1) := by decide +kernel
theorem dX2_peg_51 : decode cX2_peg 51 = .ok (.ireturn, 1) := by decide +kernel
set_option maxRecDepth 20000 in
theorem ggX2_next_X2_goOver : GoodIn wsX2_next wsX2_goOver := goodIn_r _ [5, 6, 7, 8, 4, 9, 10, 11, 12, 13, 14, 15, 16, 17, 18, 19, 20, 21, 22, 23, 24, 25, 26, 27, 28, 29, 30, 31, 32, 33, 34, 35, 36, 37, 38, 39, 40, 41, 42, 43, 44, 45, 46, 47, 48, 49, 50, 51, 52, 53, 54, 55, 56, 57, 58, 59, 60, 61, 62, 63, 64] (by decide +kernel) (by decide +kernel)
set_option maxRecDepth 20000 in
theorem gX2_next_X2_goOver : GoodIn wsX2_next (wsV RX2 116 RX2 yX2_goOver wsX2_goOver) := goodIn_app (goodIn_of _ (by decide +kernel)) ggX2_next_X2_goOver
theorem dX2_next_0 : decode cX2_next 0 = .ok (.aload_n 0, 1) := by decide +kernel
theorem dX2_next_1 : decode cX2_next 1 = .ok (.iload_n 1, 1) := by decide +kernel
theorem dX2_next_2 : decode cX2_next 2 = .ok (.iconst 1, 1) := by decide +kernel
theorem dX2_next_3 : decode cX2_next 3 = .ok (.invokevirtual 116, 3) := by decide +kernel
theorem dX2_next_6 : decode cX2_next 6 = .ok (.ireturn, 1) := by decide +kernel
set_option maxRecDepth 20000 in
theorem ggX2_previous_X2_goOver : GoodIn wsX2_previous wsX2_goOver := goodIn_r _ [5, 6, 7, 8, 4, 9, 10, 11, 12, 13, 14, 15, 16, 17, 18, 19, 20, 21, 22, 23, 24, 25, 26, 27, 28, 29, 30, 31, 32, 33, 34, 35, 36, 37, 38, 39, 40, 41, 42, 43, 44, 45, 46, 47, 48, 49, 50, 51, 52, 53, 54, 55, 56, 57, 58, 59, 60, 61, 62, 63, 64] (by decide +kernel) (by decide +kernel)
set_option maxRecDepth 20000 in
theorem gX2_previous_X2_goOver : GoodIn wsX2_previous (wsV RX2 116 RX2 yX2_goOver wsX2_goOver) := goodIn_app (goodIn_of _ (by decide +kernel)) ggX2_previous_X2_goOver
theorem dX2_previous_0 : decode cX2_previous 0 = .ok (.aload_n 0, 1) := by decide +kernel
theorem dX2_previous_1 : decode cX2_previous 1 = .ok (.iload_n 1, 1) := by decide +kernel
theorem dX2_previous_2 : decode cX2_previous 2 = .ok (.iconst 0, 1) := by decide +kernel
theorem dX2_previous_3 : decode cX2_previous 3 = .ok (.invokevirtual 116, 3) := by decide +kernel
theorem dX2_previous_6 : decode cX2_previous 6 = .ok (.ireturn, 1) := by decide +kernel
set_option maxRecDepth 20000 in
theorem ggX2_side_X2_pegOf : GoodIn wsX2_side wsX2_pegOf := goodIn_r _ [5, 6, 33, 34, 35, 36, 37, 38, 39] (by decide +kernel) (by decide +kernel)
set_option maxRecDepth 20000 in
theorem gX2_side_X2_pegOf : GoodIn wsX2_side (wsV RX2 108 RX2 yX2_pegOf wsX2_pegOf) := goodIn_app (goodIn_of _ (by decide +kernel)) ggX2_side_X2_pegOf
set_option maxRecDepth 20000 in
theorem ggX2_side_X0_isOld : GoodIn wsX2_side wsX0_isOld := goodIn_r _ [11, 12, 13, 14, 15, 16, 17, 18, 19, 20, 24, 25, 26, 27, 28, 29, 30, 31, 32] (by decide +kernel) (by decide +kernel)
set_option maxRecDepth 20000 in
theorem gX2_side_X0_isOld : GoodIn wsX2_side (wsV RX2 123 RX0 yX0_isOld wsX0_isOld) := goodIn_app (goodIn_of _ (by decide +kernel)) ggX2_side_X0_isOld
set_option maxRecDepth 20000 in
theorem ggX2_side_X2_oneIf : GoodIn wsX2_side wsX2_oneIf := goodIn_r _ [23] (by decide +kernel) (by decide +kernel)
set_option maxRecDepth 20000 in
theorem gX2_side_X2_oneIf : GoodIn wsX2_side (va_wsS RX2 76 yX2_oneIf wsX2_oneIf) := goodIn_app (goodIn_of _ (by decide +kernel)) ggX2_side_X2_oneIf
theorem dX2_side_0 : decode cX2_side 0 = .ok (.aload_n 0, 1) := by decide +kernel
theorem dX2_side_1 : decode cX2_side 1 = .ok (.iload_n 1, 1) := by decide +kernel
theorem dX2_side_2 : decode cX2_side 2 = .ok (.invokevirtual 108, 3) := by decide +kernel
theorem dX2_side_5 : decode cX2_side 5 = .ok (.astore_n 3, 1) := by decide +kernel
theorem dX2_side_6 : decode cX2_side 6 = .ok (.aload_n 3, 1) := by decide +kernel
theorem dX2_side_7 : decode cX2_side 7 = .ok (.ifnull 12, 3) := by decide +kernel
theorem dX2_side_10 : decode cX2_side 10 = .ok (.iload_n 2, 1) := by decide +kernel
theorem dX2_side_11 : decode cX2_side 11 = .ok (.ifCond .lt 8, 3) := by decide +kernel
theorem dX2_side_14 : decode cX2_side 14 = .ok (.iload_n 2, 1) := by decide +kernel
theorem dX2_side_15 : decode cX2_side 15 = .ok (.iconst 3, 1) := by decide +kernel
theorem dX2_side_16 : decode cX2_side 16 = .ok (.if_icmp .le 5, 3) := by decide +kernel
theorem dX2_side_19 : decode cX2_side 19 = .ok (.iconst (-1), 1) := by decide +kernel
theorem dX2_side_20 : decode cX2_side 20 = .ok (.ireturn, 1) := by decide +kernel
theorem dX2_side_21 : decode cX2_side 21 = .ok (.aload_n 3, 1) := by decide +kernel
theorem dX2_side_22 : decode cX2_side 22 = .ok (.getfield 119, 3) := by decide +kernel
theorem dX2_side_25 : decode cX2_side 25 = .ok (.astore 4, 2) := by decide +kernel
theorem dX2_side_27 : decode cX2_side 27 = .ok (.aload 4, 2) := by decide +kernel
theorem dX2_side_29 : decode cX2_side 29 = .ok (.ifnonnull 6, 3) := by decide +kernel
theorem dX2_side_32 : decode cX2_side 32 = .ok (.bipush (-2), 2) := by decide +kernel
theorem dX2_side_34 : decode cX2_side 34 = .ok (.ireturn, 1) := by decide +kernel
theorem dX2_side_35 : decode cX2_side 35 = .ok (.aload_n 3, 1) := by decide +kernel
theorem dX2_side_36 : decode cX2_side 36 = .ok (.invokevirtual 123, 3) := by decide +kernel
theorem dX2_side_39 : decode cX2_side 39 = .ok (.ifCond .eq 6, 3) := by decide +kernel
theorem dX2_side_42 : decode cX2_side 42 = .ok (.bipush (-4), 2) := by decide +kernel
theorem dX2_side_44 : decode cX2_side 44 = .ok (.ireturn, 1) := by decide +kernel
theorem dX2_side_45 : decode cX2_side 45 = .ok (.iload_n 2, 1) := by decide +kernel
theorem dX2_side_46 : decode cX2_side 46 = .ok (.lookupswitch 63 #[(0, 26), (1, 47)], 26) := by decide +kernel
theorem dX2_side_72 : decode cX2_side 72 = .ok (.aload_n 3, 1) := by decide +kernel
theorem dX2_side_73 : decode cX2_side 73 = .ok (.getfield 127, 3) := by decide +kernel
theorem dX2_side_76 : decode cX2_side 76 = .ok (.aload 4, 2) := by decide +kernel
theorem dX2_side_78 : decode cX2_side 78 = .ok (.getfield 34, 3) := by decide +kernel
theorem dX2_side_81 : decode cX2_side 81 = .ok (.if_icmp .ge 7, 3) := by decide +kernel
theorem dX2_side_84 : decode cX2_side 84 = .ok (.iconst 1, 1) := by decide +kernel
theorem dX2_side_85 : decode cX2_side 85 = .ok (.goto 4, 3) := by decide +kernel
theorem dX2_side_88 : decode cX2_side 88 = .ok (.iconst 0, 1) := by decide +kernel
theorem dX2_side_89 : decode cX2_side 89 = .ok (.invokestatic 76, 3) := by decide +kernel
theorem dX2_side_92 : decode cX2_side 92 = .ok (.ireturn, 1) := by decide +kernel
theorem dX2_side_93 : decode cX2_side 93 = .ok (.aload_n 3, 1) := by decide +kernel
theorem dX2_side_94 : decode cX2_side 94 = .ok (.getfield 127, 3) := by decide +kernel
theorem dX2_side_97 : decode cX2_side 97 = .ok (.ifCond .le 7, 3) := by decide +kernel
theorem dX2_side_100 : decode cX2_side 100 = .ok (.iconst 1, 1) := by decide +kernel
theorem dX2_side_101 : decode cX2_side 101 = .ok (.goto 4, 3) := by decide +kernel
theorem dX2_side_104 : decode cX2_side 104 = .ok (.iconst 0, 1) := by decide +kernel
theorem dX2_side_105 : decode cX2_side 105 = .ok (.invokestatic 76, 3) := by decide +kernel
theorem dX2_side_108 : decode cX2_side 108 = .ok (.ireturn, 1) := by decide +kernel
theorem dX2_side_109 : decode cX2_side 109 = .ok (.aload_n 3, 1) := by decide +kernel
theorem dX2_side_110 : decode cX2_side 110 = .ok (.getfield 127, 3) := by decide +kernel
theorem dX2_side_113 : decode cX2_side 113 = .ok (.ireturn, 1) := by decide +kernel
set_option maxRecDepth 20000 in
theorem ggX2_change_X2_pegOf : GoodIn wsX2_change wsX2_pegOf := goodIn_r _ [5, 6, 67, 68, 69, 70, 71, 72, 73] (by decide +kernel) (by decide +kernel)
set_option maxRecDepth 20000 in
theorem gX2_change_X2_pegOf : GoodIn wsX2_change (wsV RX2 108 RX2 yX2_pegOf wsX2_pegOf) := goodIn_app (goodIn_of _ (by decide +kernel)) ggX2_change_X2_pegOf
set_option maxRecDepth 20000 in
theorem ggX2_change_X2_isName : GoodIn wsX2_change wsX2_isName := goodIn_r _ [9] (by decide +kernel) (by decide +kernel)
set_option maxRecDepth 20000 in
theorem gX2_change_X2_isName : GoodIn wsX2_change (va_wsS RX2 27 yX2_isName wsX2_isName) := goodIn_app (goodIn_of _ (by decide +kernel)) ggX2_change_X2_isName
set_option maxRecDepth 20000 in
theorem ggX2_change_X2_handFault : GoodIn wsX2_change wsX2_handFault := goodIn_r _ [13, 14, 15, 16, 17, 18, 19, 20, 21, 22, 23, 24, 25, 26, 27, 28, 29, 30, 4, 31, 32, 33, 34, 35, 36, 37, 38, 39, 40, 41, 42, 43, 44, 61, 62, 63, 64, 65, 66, 74, 75, 76, 67, 68, 69, 70, 71, 72, 73] (by decide +kernel) (by decide +kernel)
set_option maxRecDepth 20000 in
theorem gX2_change_X2_handFault : GoodIn wsX2_change (wsV RX2 130 RX2 yX2_handFault wsX2_handFault) := goodIn_app (goodIn_of _ (by decide +kernel)) ggX2_change_X2_handFault
set_option maxRecDepth 20000 in
theorem ggX2_change_X2_newThing : GoodIn wsX2_change wsX2_newThing := goodIn_r _ [48, 49, 67, 68, 69, 70, 71, 72, 73] (by decide +kernel) (by decide +kernel)
set_option maxRecDepth 20000 in
theorem gX2_change_X2_newThing : GoodIn wsX2_change (wsV RX2 38 RX2 yX2_newThing wsX2_newThing) := goodIn_app (goodIn_of _ (by decide +kernel)) ggX2_change_X2_newThing
set_option maxRecDepth 20000 in
theorem ggX2_change_X0_hold : GoodIn wsX2_change wsX0_hold := goodIn_r _ [53, 54, 55, 56, 61, 62, 63, 64, 65, 66] (by decide +kernel) (by decide +kernel)
set_option maxRecDepth 20000 in
theorem gX2_change_X0_hold : GoodIn wsX2_change (wsV RX2 137 RX0 yX0_hold wsX0_hold) := goodIn_app (goodIn_of _ (by decide +kernel)) ggX2_change_X0_hold
set_option maxRecDepth 20000 in
theorem ggX2_change_X1_layAt : GoodIn wsX2_change wsX1_layAt := goodIn_r _ [60, 44, 74, 75, 76] (by decide +kernel) (by decide +kernel)
set_option maxRecDepth 20000 in
theorem gX2_change_X1_layAt : GoodIn wsX2_change (wsV RX2 65 RX1 yX1_layAt wsX1_layAt) := goodIn_app (goodIn_of _ (by decide +kernel)) ggX2_change_X1_layAt
theorem dX2_change_0 : decode cX2_change 0 = .ok (.aload_n 0, 1) := by decide +kernel
theorem dX2_change_1 : decode cX2_change 1 = .ok (.iload_n 1, 1) := by decide +kernel
theorem dX2_change_2 : decode cX2_change 2 = .ok (.invokevirtual 108, 3) := by decide +kernel
theorem dX2_change_5 : decode cX2_change 5 = .ok (.astore_n 3, 1) := by decide +kernel
theorem dX2_change_6 : decode cX2_change 6 = .ok (.aload_n 3, 1) := by decide +kernel
theorem dX2_change_7 : decode cX2_change 7 = .ok (.ifnull 10, 3) := by decide +kernel
theorem dX2_change_10 : decode cX2_change 10 = .ok (.iload_n 2, 1) := by decide +kernel
theorem dX2_change_11 : decode cX2_change 11 = .ok (.invokestatic 27, 3) := by decide +kernel
theorem dX2_change_14 : decode cX2_change 14 = .ok (.ifCond .ne 5, 3) := by decide +kernel
theorem dX2_change_17 : decode cX2_change 17 = .ok (.iconst (-1), 1) := by decide +kernel
theorem dX2_change_18 : decode cX2_change 18 = .ok (.ireturn, 1) := by decide +kernel
theorem dX2_change_19 : decode cX2_change 19 = .ok (.aload_n 3, 1) := by decide +kernel
theorem dX2_change_20 : decode cX2_change 20 = .ok (.getfield 119, 3) := by decide +kernel
theorem dX2_change_23 : decode cX2_change 23 = .ok (.astore 4, 2) := by decide +kernel
theorem dX2_change_25 : decode cX2_change 25 = .ok (.aload 4, 2) := by decide +kernel
theorem dX2_change_27 : decode cX2_change 27 = .ok (.ifnonnull 6, 3) := by decide +kernel
theorem dX2_change_30 : decode cX2_change 30 = .ok (.bipush (-2), 2) := by decide +kernel
theorem dX2_change_32 : decode cX2_change 32 = .ok (.ireturn, 1) := by decide +kernel
theorem dX2_change_33 : decode cX2_change 33 = .ok (.aload_n 0, 1) := by decide +kernel
theorem dX2_change_34 : decode cX2_change 34 = .ok (.aload_n 3, 1) := by decide +kernel
theorem dX2_change_35 : decode cX2_change 35 = .ok (.aload 4, 2) := by decide +kernel
theorem dX2_change_37 : decode cX2_change 37 = .ok (.invokevirtual 130, 3) := by decide +kernel
theorem dX2_change_40 : decode cX2_change 40 = .ok (.istore 5, 2) := by decide +kernel
theorem dX2_change_42 : decode cX2_change 42 = .ok (.iload 5, 2) := by decide +kernel
theorem dX2_change_44 : decode cX2_change 44 = .ok (.ifCond .eq 6, 3) := by decide +kernel
theorem dX2_change_47 : decode cX2_change 47 = .ok (.iload 5, 2) := by decide +kernel
theorem dX2_change_49 : decode cX2_change 49 = .ok (.ireturn, 1) := by decide +kernel
theorem dX2_change_50 : decode cX2_change 50 = .ok (.aload_n 0, 1) := by decide +kernel
theorem dX2_change_51 : decode cX2_change 51 = .ok (.iload_n 2, 1) := by decide +kernel
theorem dX2_change_52 : decode cX2_change 52 = .ok (.invokevirtual 38, 3) := by decide +kernel
theorem dX2_change_55 : decode cX2_change 55 = .ok (.istore 6, 2) := by decide +kernel
theorem dX2_change_57 : decode cX2_change 57 = .ok (.aload_n 3, 1) := by decide +kernel
theorem dX2_change_58 : decode cX2_change 58 = .ok (.aload_n 3, 1) := by decide +kernel
theorem dX2_change_59 : decode cX2_change 59 = .ok (.getfield 134, 3) := by decide +kernel
theorem dX2_change_62 : decode cX2_change 62 = .ok (.iload 6, 2) := by decide +kernel
theorem dX2_change_64 : decode cX2_change 64 = .ok (.invokevirtual 137, 3) := by decide +kernel
theorem dX2_change_67 : decode cX2_change 67 = .ok (.pop, 1) := by decide +kernel
theorem dX2_change_68 : decode cX2_change 68 = .ok (.aload 4, 2) := by decide +kernel
theorem dX2_change_70 : decode cX2_change 70 = .ok (.aload_n 3, 1) := by decide +kernel
theorem dX2_change_71 : decode cX2_change 71 = .ok (.getfield 134, 3) := by decide +kernel
theorem dX2_change_74 : decode cX2_change 74 = .ok (.iload 6, 2) := by decide +kernel
theorem dX2_change_76 : decode cX2_change 76 = .ok (.invokevirtual 65, 3) := by decide +kernel
theorem dX2_change_79 : decode cX2_change 79 = .ok (.ireturn, 1) := by decide +kernel
set_option maxRecDepth 20000 in
theorem ggX2_add_X2_pegOf : GoodIn wsX2_add wsX2_pegOf := goodIn_r _ [5, 6, 66, 67, 68, 69, 70, 71, 72] (by decide +kernel) (by decide +kernel)
set_option maxRecDepth 20000 in
theorem gX2_add_X2_pegOf : GoodIn wsX2_add (wsV RX2 108 RX2 yX2_pegOf wsX2_pegOf) := goodIn_app (goodIn_of _ (by decide +kernel)) ggX2_add_X2_pegOf
set_option maxRecDepth 20000 in
theorem ggX2_add_X2_isName : GoodIn wsX2_add wsX2_isName := goodIn_r _ [9] (by decide +kernel) (by decide +kernel)
set_option maxRecDepth 20000 in
theorem gX2_add_X2_isName : GoodIn wsX2_add (va_wsS RX2 27 yX2_isName wsX2_isName) := goodIn_app (goodIn_of _ (by decide +kernel)) ggX2_add_X2_isName
set_option maxRecDepth 20000 in
theorem ggX2_add_X1_hasRoomFor : GoodIn wsX2_add wsX1_hasRoomFor := goodIn_r _ [14, 15, 63, 64, 65] (by decide +kernel) (by decide +kernel)
set_option maxRecDepth 20000 in
theorem gX2_add_X1_hasRoomFor : GoodIn wsX2_add (wsV RX2 31 RX1 yX1_hasRoomFor wsX1_hasRoomFor) := goodIn_app (goodIn_of _ (by decide +kernel)) ggX2_add_X1_hasRoomFor
set_option maxRecDepth 20000 in
theorem ggX2_add_X0_isOld : GoodIn wsX2_add wsX0_isOld := goodIn_r _ [20, 21, 22, 23, 24, 25, 26, 13, 27, 15, 57, 58, 59, 60, 61, 62, 63, 64, 65] (by decide +kernel) (by decide +kernel)
set_option maxRecDepth 20000 in
theorem gX2_add_X0_isOld : GoodIn wsX2_add (wsV RX2 123 RX0 yX0_isOld wsX0_isOld) := goodIn_app (goodIn_of _ (by decide +kernel)) ggX2_add_X0_isOld
set_option maxRecDepth 20000 in
theorem ggX2_add_X2_refused : GoodIn wsX2_add wsX2_refused := goodIn_r _ [31, 32, 33, 34, 35, 66, 67, 68, 69, 70, 71, 72] (by decide +kernel) (by decide +kernel)
set_option maxRecDepth 20000 in
theorem gX2_add_X2_refused : GoodIn wsX2_add (wsV RX2 62 RX2 yX2_refused wsX2_refused) := goodIn_app (goodIn_of _ (by decide +kernel)) ggX2_add_X2_refused
set_option maxRecDepth 20000 in
theorem ggX2_add_X2_newThing : GoodIn wsX2_add wsX2_newThing := goodIn_r _ [39, 40, 66, 67, 68, 69, 70, 71, 72] (by decide +kernel) (by decide +kernel)
set_option maxRecDepth 20000 in
theorem gX2_add_X2_newThing : GoodIn wsX2_add (wsV RX2 38 RX2 yX2_newThing wsX2_newThing) := goodIn_app (goodIn_of _ (by decide +kernel)) ggX2_add_X2_newThing
set_option maxRecDepth 20000 in
theorem ggX2_add_X1_putAt : GoodIn wsX2_add wsX1_putAt := goodIn_r _ [44, 45, 46, 47, 48, 13, 49, 15, 50, 63, 64, 65] (by decide +kernel) (by decide +kernel)
set_option maxRecDepth 20000 in
theorem gX2_add_X1_putAt : GoodIn wsX2_add (wsV RX2 42 RX1 yX1_putAt wsX1_putAt) := goodIn_app (goodIn_of _ (by decide +kernel)) ggX2_add_X1_putAt
set_option maxRecDepth 20000 in
theorem ggX2_add_X0_standIn : GoodIn wsX2_add wsX0_standIn := goodIn_r _ [54, 21, 23, 22, 55, 56, 57, 58, 59, 60, 61, 62, 63, 64, 65] (by decide +kernel) (by decide +kernel)
set_option maxRecDepth 20000 in
theorem gX2_add_X0_standIn : GoodIn wsX2_add (wsV RX2 112 RX0 yX0_standIn wsX0_standIn) := goodIn_app (goodIn_of _ (by decide +kernel)) ggX2_add_X0_standIn
theorem dX2_add_0 : decode cX2_add 0 = .ok (.aload_n 0, 1) := by decide +kernel
theorem dX2_add_1 : decode cX2_add 1 = .ok (.iload_n 1, 1) := by decide +kernel
theorem dX2_add_2 : decode cX2_add 2 = .ok (.invokevirtual 108, 3) := by decide +kernel
theorem dX2_add_5 : decode cX2_add 5 = .ok (.astore_n 3, 1) := by decide +kernel
theorem dX2_add_6 : decode cX2_add 6 = .ok (.aload_n 3, 1) := by decide +kernel
theorem dX2_add_7 : decode cX2_add 7 = .ok (.ifnull 10, 3) := by decide +kernel
theorem dX2_add_10 : decode cX2_add 10 = .ok (.iload_n 2, 1) := by decide +kernel
theorem dX2_add_11 : decode cX2_add 11 = .ok (.invokestatic 27, 3) := by decide +kernel
theorem dX2_add_14 : decode cX2_add 14 = .ok (.ifCond .ne 5, 3) := by decide +kernel
theorem dX2_add_17 : decode cX2_add 17 = .ok (.iconst (-1), 1) := by decide +kernel
theorem dX2_add_18 : decode cX2_add 18 = .ok (.ireturn, 1) := by decide +kernel
theorem dX2_add_19 : decode cX2_add 19 = .ok (.aload_n 3, 1) := by decide +kernel
theorem dX2_add_20 : decode cX2_add 20 = .ok (.getfield 119, 3) := by decide +kernel
theorem dX2_add_23 : decode cX2_add 23 = .ok (.astore 4, 2) := by decide +kernel
theorem dX2_add_25 : decode cX2_add 25 = .ok (.aload 4, 2) := by decide +kernel
theorem dX2_add_27 : decode cX2_add 27 = .ok (.ifnonnull 6, 3) := by decide +kernel
theorem dX2_add_30 : decode cX2_add 30 = .ok (.bipush (-2), 2) := by decide +kernel
theorem dX2_add_32 : decode cX2_add 32 = .ok (.ireturn, 1) := by decide +kernel
theorem dX2_add_33 : decode cX2_add 33 = .ok (.aload 4, 2) := by decide +kernel
theorem dX2_add_35 : decode cX2_add 35 = .ok (.iconst 1, 1) := by decide +kernel
theorem dX2_add_36 : decode cX2_add 36 = .ok (.invokevirtual 31, 3) := by decide +kernel
theorem dX2_add_39 : decode cX2_add 39 = .ok (.ifCond .ne 6, 3) := by decide +kernel
theorem dX2_add_42 : decode cX2_add 42 = .ok (.bipush (-3), 2) := by decide +kernel
theorem dX2_add_44 : decode cX2_add 44 = .ok (.ireturn, 1) := by decide +kernel
theorem dX2_add_45 : decode cX2_add 45 = .ok (.aload_n 3, 1) := by decide +kernel
theorem dX2_add_46 : decode cX2_add 46 = .ok (.invokevirtual 123, 3) := by decide +kernel
theorem dX2_add_49 : decode cX2_add 49 = .ok (.ifCond .eq 10, 3) := by decide +kernel
theorem dX2_add_52 : decode cX2_add 52 = .ok (.aload_n 0, 1) := by decide +kernel
theorem dX2_add_53 : decode cX2_add 53 = .ok (.bipush (-4), 2) := by decide +kernel
theorem dX2_add_55 : decode cX2_add 55 = .ok (.invokevirtual 62, 3) := by decide +kernel
theorem dX2_add_58 : decode cX2_add 58 = .ok (.ireturn, 1) := by decide +kernel
theorem dX2_add_59 : decode cX2_add 59 = .ok (.aload 4, 2) := by decide +kernel
theorem dX2_add_61 : decode cX2_add 61 = .ok (.aload_n 3, 1) := by decide +kernel
theorem dX2_add_62 : decode cX2_add 62 = .ok (.getfield 127, 3) := by decide +kernel
theorem dX2_add_65 : decode cX2_add 65 = .ok (.aload_n 0, 1) := by decide +kernel
theorem dX2_add_66 : decode cX2_add 66 = .ok (.iload_n 2, 1) := by decide +kernel
theorem dX2_add_67 : decode cX2_add 67 = .ok (.invokevirtual 38, 3) := by decide +kernel
theorem dX2_add_70 : decode cX2_add 70 = .ok (.invokevirtual 42, 3) := by decide +kernel
theorem dX2_add_73 : decode cX2_add 73 = .ok (.aload_n 3, 1) := by decide +kernel
theorem dX2_add_74 : decode cX2_add 74 = .ok (.aload 4, 2) := by decide +kernel
theorem dX2_add_76 : decode cX2_add 76 = .ok (.aload_n 3, 1) := by decide +kernel
theorem dX2_add_77 : decode cX2_add 77 = .ok (.getfield 127, 3) := by decide +kernel
theorem dX2_add_80 : decode cX2_add 80 = .ok (.iconst 1, 1) := by decide +kernel
theorem dX2_add_81 : decode cX2_add 81 = .ok (.iadd, 1) := by decide +kernel
theorem dX2_add_82 : decode cX2_add 82 = .ok (.invokevirtual 112, 3) := by decide +kernel
theorem dX2_add_85 : decode cX2_add 85 = .ok (.aload 4, 2) := by decide +kernel
theorem dX2_add_87 : decode cX2_add 87 = .ok (.getfield 34, 3) := by decide +kernel
theorem dX2_add_90 : decode cX2_add 90 = .ok (.ireturn, 1) := by decide +kernel
set_option maxRecDepth 20000 in
theorem ggX2_remove_X2_pegOf : GoodIn wsX2_remove wsX2_pegOf := goodIn_r _ [5, 6, 63, 64, 65, 66, 67, 68, 69] (by decide +kernel) (by decide +kernel)
set_option maxRecDepth 20000 in
theorem gX2_remove_X2_pegOf : GoodIn wsX2_remove (wsV RX2 108 RX2 yX2_pegOf wsX2_pegOf) := goodIn_app (goodIn_of _ (by decide +kernel)) ggX2_remove_X2_pegOf
set_option maxRecDepth 20000 in
theorem ggX2_remove_X2_handFault : GoodIn wsX2_remove wsX2_handFault := goodIn_r _ [10, 11, 12, 13, 14, 15, 16, 17, 18, 19, 20, 21, 22, 23, 24, 25, 26, 27, 4, 28, 29, 30, 31, 32, 33, 34, 35, 36, 37, 38, 39, 40, 41, 57, 58, 59, 60, 61, 62, 70, 71, 72, 63, 64, 65, 66, 67, 68, 69] (by decide +kernel) (by decide +kernel)
set_option maxRecDepth 20000 in
theorem gX2_remove_X2_handFault : GoodIn wsX2_remove (wsV RX2 130 RX2 yX2_handFault wsX2_handFault) := goodIn_app (goodIn_of _ (by decide +kernel)) ggX2_remove_X2_handFault
set_option maxRecDepth 20000 in
theorem ggX2_remove_X1_takeAt : GoodIn wsX2_remove wsX1_takeAt := goodIn_r _ [45, 41, 24, 46, 47, 48, 22, 49, 50, 70, 71, 72] (by decide +kernel) (by decide +kernel)
set_option maxRecDepth 20000 in
theorem gX2_remove_X1_takeAt : GoodIn wsX2_remove (wsV RX2 56 RX1 yX1_takeAt wsX1_takeAt) := goodIn_app (goodIn_of _ (by decide +kernel)) ggX2_remove_X1_takeAt
set_option maxRecDepth 20000 in
theorem ggX2_remove_X0_standIn : GoodIn wsX2_remove wsX0_standIn := goodIn_r _ [54, 16, 18, 17, 55, 56, 57, 58, 59, 60, 61, 62, 70, 71, 72] (by decide +kernel) (by decide +kernel)
set_option maxRecDepth 20000 in
theorem gX2_remove_X0_standIn : GoodIn wsX2_remove (wsV RX2 112 RX0 yX0_standIn wsX0_standIn) := goodIn_app (goodIn_of _ (by decide +kernel)) ggX2_remove_X0_standIn
theorem dX2_remove_0 : decode cX2_remove 0 = .ok (.aload_n 0, 1) := by decide +kernel
theorem dX2_remove_1 : decode cX2_remove 1 = .ok (.iload_n 1, 1) := by decide +kernel
theorem dX2_remove_2 : decode cX2_remove 2 = .ok (.invokevirtual 108, 3) := by decide +kernel
theorem dX2_remove_5 : decode cX2_remove 5 = .ok (.astore_n 2, 1) := by decide +kernel
theorem dX2_remove_6 : decode cX2_remove 6 = .ok (.aload_n 2, 1) := by decide +kernel
theorem dX2_remove_7 : decode cX2_remove 7 = .ok (.ifnonnull 5, 3) := by decide +kernel
theorem dX2_remove_10 : decode cX2_remove 10 = .ok (.iconst (-1), 1) := by decide +kernel
theorem dX2_remove_11 : decode cX2_remove 11 = .ok (.ireturn, 1) := by decide +kernel
theorem dX2_remove_12 : decode cX2_remove 12 = .ok (.aload_n 2, 1) := by decide +kernel
theorem dX2_remove_13 : decode cX2_remove 13 = .ok (.getfield 119, 3) := by decide +kernel
theorem dX2_remove_16 : decode cX2_remove 16 = .ok (.astore_n 3, 1) := by decide +kernel
theorem dX2_remove_17 : decode cX2_remove 17 = .ok (.aload_n 3, 1) := by decide +kernel
theorem dX2_remove_18 : decode cX2_remove 18 = .ok (.ifnonnull 6, 3) := by decide +kernel
theorem dX2_remove_21 : decode cX2_remove 21 = .ok (.bipush (-2), 2) := by decide +kernel
theorem dX2_remove_23 : decode cX2_remove 23 = .ok (.ireturn, 1) := by decide +kernel
theorem dX2_remove_24 : decode cX2_remove 24 = .ok (.aload_n 0, 1) := by decide +kernel
theorem dX2_remove_25 : decode cX2_remove 25 = .ok (.aload_n 2, 1) := by decide +kernel
theorem dX2_remove_26 : decode cX2_remove 26 = .ok (.aload_n 3, 1) := by decide +kernel
theorem dX2_remove_27 : decode cX2_remove 27 = .ok (.invokevirtual 130, 3) := by decide +kernel
theorem dX2_remove_30 : decode cX2_remove 30 = .ok (.istore 4, 2) := by decide +kernel
theorem dX2_remove_32 : decode cX2_remove 32 = .ok (.iload 4, 2) := by decide +kernel
theorem dX2_remove_34 : decode cX2_remove 34 = .ok (.ifCond .eq 6, 3) := by decide +kernel
theorem dX2_remove_37 : decode cX2_remove 37 = .ok (.iload 4, 2) := by decide +kernel
theorem dX2_remove_39 : decode cX2_remove 39 = .ok (.ireturn, 1) := by decide +kernel
theorem dX2_remove_40 : decode cX2_remove 40 = .ok (.aload_n 3, 1) := by decide +kernel
theorem dX2_remove_41 : decode cX2_remove 41 = .ok (.aload_n 2, 1) := by decide +kernel
theorem dX2_remove_42 : decode cX2_remove 42 = .ok (.getfield 134, 3) := by decide +kernel
theorem dX2_remove_45 : decode cX2_remove 45 = .ok (.invokevirtual 56, 3) := by decide +kernel
theorem dX2_remove_48 : decode cX2_remove 48 = .ok (.istore 5, 2) := by decide +kernel
theorem dX2_remove_50 : decode cX2_remove 50 = .ok (.aload_n 2, 1) := by decide +kernel
theorem dX2_remove_51 : decode cX2_remove 51 = .ok (.aload_n 3, 1) := by decide +kernel
theorem dX2_remove_52 : decode cX2_remove 52 = .ok (.aload_n 2, 1) := by decide +kernel
theorem dX2_remove_53 : decode cX2_remove 53 = .ok (.getfield 134, 3) := by decide +kernel
theorem dX2_remove_56 : decode cX2_remove 56 = .ok (.invokevirtual 112, 3) := by decide +kernel
theorem dX2_remove_59 : decode cX2_remove 59 = .ok (.iload 5, 2) := by decide +kernel
theorem dX2_remove_61 : decode cX2_remove 61 = .ok (.ireturn, 1) := by decide +kernel
set_option maxRecDepth 20000 in
theorem ggX2_old_X2_pegOf : GoodIn wsX2_old wsX2_pegOf := goodIn_r _ [5, 6, 30, 31, 32, 33, 34, 35, 36] (by decide +kernel) (by decide +kernel)
set_option maxRecDepth 20000 in
theorem gX2_old_X2_pegOf : GoodIn wsX2_old (wsV RX2 108 RX2 yX2_pegOf wsX2_pegOf) := goodIn_app (goodIn_of _ (by decide +kernel)) ggX2_old_X2_pegOf
set_option maxRecDepth 20000 in
theorem ggX2_old_X0_isOld : GoodIn wsX2_old wsX0_isOld := goodIn_r _ [11, 12, 13, 14, 15, 16, 17, 18, 19, 20, 24, 25, 26, 27, 28, 29, 37, 38, 39] (by decide +kernel) (by decide +kernel)
set_option maxRecDepth 20000 in
theorem gX2_old_X0_isOld : GoodIn wsX2_old (wsV RX2 123 RX0 yX0_isOld wsX0_isOld) := goodIn_app (goodIn_of _ (by decide +kernel)) ggX2_old_X0_isOld
set_option maxRecDepth 20000 in
theorem ggX2_old_X2_oneIf : GoodIn wsX2_old wsX2_oneIf := goodIn_r _ [23] (by decide +kernel) (by decide +kernel)
set_option maxRecDepth 20000 in
theorem gX2_old_X2_oneIf : GoodIn wsX2_old (va_wsS RX2 76 yX2_oneIf wsX2_oneIf) := goodIn_app (goodIn_of _ (by decide +kernel)) ggX2_old_X2_oneIf
theorem dX2_old_0 : decode cX2_old 0 = .ok (.aload_n 0, 1) := by decide +kernel
theorem dX2_old_1 : decode cX2_old 1 = .ok (.iload_n 1, 1) := by decide +kernel
theorem dX2_old_2 : decode cX2_old 2 = .ok (.invokevirtual 108, 3) := by decide +kernel
theorem dX2_old_5 : decode cX2_old 5 = .ok (.astore_n 2, 1) := by decide +kernel
theorem dX2_old_6 : decode cX2_old 6 = .ok (.aload_n 2, 1) := by decide +kernel
theorem dX2_old_7 : decode cX2_old 7 = .ok (.ifnonnull 5, 3) := by decide +kernel
theorem dX2_old_10 : decode cX2_old 10 = .ok (.iconst (-1), 1) := by decide +kernel
theorem dX2_old_11 : decode cX2_old 11 = .ok (.ireturn, 1) := by decide +kernel
theorem dX2_old_12 : decode cX2_old 12 = .ok (.aload_n 2, 1) := by decide +kernel
theorem dX2_old_13 : decode cX2_old 13 = .ok (.getfield 119, 3) := by decide +kernel
theorem dX2_old_16 : decode cX2_old 16 = .ok (.ifnonnull 6, 3) := by decide +kernel
theorem dX2_old_19 : decode cX2_old 19 = .ok (.bipush (-2), 2) := by decide +kernel
theorem dX2_old_21 : decode cX2_old 21 = .ok (.ireturn, 1) := by decide +kernel
theorem dX2_old_22 : decode cX2_old 22 = .ok (.aload_n 2, 1) := by decide +kernel
theorem dX2_old_23 : decode cX2_old 23 = .ok (.invokevirtual 123, 3) := by decide +kernel
theorem dX2_old_26 : decode cX2_old 26 = .ok (.invokestatic 76, 3) := by decide +kernel
theorem dX2_old_29 : decode cX2_old 29 = .ok (.ireturn, 1) := by decide +kernel
set_option maxRecDepth 20000 in
theorem ggX2_count_X2_standingPegs : GoodIn wsX2_count wsX2_standingPegs := goodIn_r _ [10, 11, 30, 31, 32, 33, 34, 35, 36, 37, 38, 39, 40, 41, 42] (by decide +kernel) (by decide +kernel)
set_option maxRecDepth 20000 in
theorem gX2_count_X2_standingPegs : GoodIn wsX2_count (wsV RX2 155 RX2 yX2_standingPegs wsX2_standingPegs) := goodIn_app (goodIn_of _ (by decide +kernel)) ggX2_count_X2_standingPegs
set_option maxRecDepth 20000 in
theorem ggX2_count_X2_oldPegs : GoodIn wsX2_count wsX2_oldPegs := goodIn_r _ [15, 11, 16, 17, 18, 19, 20, 21, 22, 23, 24, 25, 26, 27, 28, 29, 30, 31, 32, 33, 34, 35, 36, 37, 38, 39, 40, 41, 42, 43, 44, 45] (by decide +kernel) (by decide +kernel)
set_option maxRecDepth 20000 in
theorem gX2_count_X2_oldPegs : GoodIn wsX2_count (wsV RX2 158 RX2 yX2_oldPegs wsX2_oldPegs) := goodIn_app (goodIn_of _ (by decide +kernel)) ggX2_count_X2_oldPegs
theorem dX2_count_0 : decode cX2_count 0 = .ok (.iload_n 1, 1) := by decide +kernel
theorem dX2_count_1 : decode cX2_count 1 = .ok (.tableswitch 78 0 6 #[43, 48, 53, 58, 63, 68, 73], 43) := by decide +kernel
theorem dX2_count_44 : decode cX2_count 44 = .ok (.aload_n 0, 1) := by decide +kernel
theorem dX2_count_45 : decode cX2_count 45 = .ok (.getfield 140, 3) := by decide +kernel
theorem dX2_count_48 : decode cX2_count 48 = .ok (.ireturn, 1) := by decide +kernel
theorem dX2_count_49 : decode cX2_count 49 = .ok (.aload_n 0, 1) := by decide +kernel
theorem dX2_count_50 : decode cX2_count 50 = .ok (.getfield 143, 3) := by decide +kernel
theorem dX2_count_53 : decode cX2_count 53 = .ok (.ireturn, 1) := by decide +kernel
theorem dX2_count_54 : decode cX2_count 54 = .ok (.aload_n 0, 1) := by decide +kernel
theorem dX2_count_55 : decode cX2_count 55 = .ok (.getfield 146, 3) := by decide +kernel
theorem dX2_count_58 : decode cX2_count 58 = .ok (.ireturn, 1) := by decide +kernel
theorem dX2_count_59 : decode cX2_count 59 = .ok (.aload_n 0, 1) := by decide +kernel
theorem dX2_count_60 : decode cX2_count 60 = .ok (.getfield 149, 3) := by decide +kernel
theorem dX2_count_63 : decode cX2_count 63 = .ok (.ireturn, 1) := by decide +kernel
theorem dX2_count_64 : decode cX2_count 64 = .ok (.aload_n 0, 1) := by decide +kernel
theorem dX2_count_65 : decode cX2_count 65 = .ok (.getfield 152, 3) := by decide +kernel
theorem dX2_count_68 : decode cX2_count 68 = .ok (.ireturn, 1) := by decide +kernel
theorem dX2_count_69 : decode cX2_count 69 = .ok (.aload_n 0, 1) := by decide +kernel
theorem dX2_count_70 : decode cX2_count 70 = .ok (.invokevirtual 155, 3) := by decide +kernel
theorem dX2_count_73 : decode cX2_count 73 = .ok (.ireturn, 1) := by decide +kernel
theorem dX2_count_74 : decode cX2_count 74 = .ok (.aload_n 0, 1) := by decide +kernel
theorem dX2_count_75 : decode cX2_count 75 = .ok (.invokevirtual 158, 3) := by decide +kernel
theorem dX2_count_78 : decode cX2_count 78 = .ok (.ireturn, 1) := by decide +kernel
theorem dX2_count_79 : decode cX2_count 79 = .ok (.iconst (-1), 1) := by decide +kernel
theorem dX2_count_80 : decode cX2_count 80 = .ok (.ireturn, 1) := by decide +kernel
theorem dX2_rowOf_0 : decode cX2_rowOf 0 = .ok (.iload_n 1, 1) := by decide +kernel
theorem dX2_rowOf_1 : decode cX2_rowOf 1 = .ok (.ifCond .lt 21, 3) := by decide +kernel
theorem dX2_rowOf_4 : decode cX2_rowOf 4 = .ok (.iload_n 1, 1) := by decide +kernel
theorem dX2_rowOf_5 : decode cX2_rowOf 5 = .ok (.aload_n 0, 1) := by decide +kernel
theorem dX2_rowOf_6 : decode cX2_rowOf 6 = .ok (.getfield 11, 3) := by decide +kernel
theorem dX2_rowOf_9 : decode cX2_rowOf 9 = .ok (.arraylength, 1) := by decide +kernel
theorem dX2_rowOf_10 : decode cX2_rowOf 10 = .ok (.if_icmp .ge 12, 3) := by decide +kernel
theorem dX2_rowOf_13 : decode cX2_rowOf 13 = .ok (.aload_n 0, 1) := by decide +kernel
theorem dX2_rowOf_14 : decode cX2_rowOf 14 = .ok (.getfield 11, 3) := by decide +kernel
theorem dX2_rowOf_17 : decode cX2_rowOf 17 = .ok (.iload_n 1, 1) := by decide +kernel
theorem dX2_rowOf_18 : decode cX2_rowOf 18 = .ok (.aaload, 1) := by decide +kernel
theorem dX2_rowOf_19 : decode cX2_rowOf 19 = .ok (.goto 4, 3) := by decide +kernel
theorem dX2_rowOf_22 : decode cX2_rowOf 22 = .ok (.aconst_null, 1) := by decide +kernel
theorem dX2_rowOf_23 : decode cX2_rowOf 23 = .ok (.areturn, 1) := by decide +kernel
theorem dX2_pegOf_0 : decode cX2_pegOf 0 = .ok (.iload_n 1, 1) := by decide +kernel
theorem dX2_pegOf_1 : decode cX2_pegOf 1 = .ok (.ifCond .lt 21, 3) := by decide +kernel
theorem dX2_pegOf_4 : decode cX2_pegOf 4 = .ok (.iload_n 1, 1) := by decide +kernel
theorem dX2_pegOf_5 : decode cX2_pegOf 5 = .ok (.aload_n 0, 1) := by decide +kernel
theorem dX2_pegOf_6 : decode cX2_pegOf 6 = .ok (.getfield 17, 3) := by decide +kernel
theorem dX2_pegOf_9 : decode cX2_pegOf 9 = .ok (.arraylength, 1) := by decide +kernel
theorem dX2_pegOf_10 : decode cX2_pegOf 10 = .ok (.if_icmp .ge 12, 3) := by decide +kernel
theorem dX2_pegOf_13 : decode cX2_pegOf 13 = .ok (.aload_n 0, 1) := by decide +kernel
theorem dX2_pegOf_14 : decode cX2_pegOf 14 = .ok (.getfield 17, 3) := by decide +kernel
theorem dX2_pegOf_17 : decode cX2_pegOf 17 = .ok (.iload_n 1, 1) := by decide +kernel
theorem dX2_pegOf_18 : decode cX2_pegOf 18 = .ok (.aaload, 1) := by decide +kernel
theorem dX2_pegOf_19 : decode cX2_pegOf 19 = .ok (.goto 4, 3) := by decide +kernel
theorem dX2_pegOf_22 : decode cX2_pegOf 22 = .ok (.aconst_null, 1) := by decide +kernel
theorem dX2_pegOf_23 : decode cX2_pegOf 23 = .ok (.areturn, 1) := by decide +kernel
theorem dX2_isName_0 : decode cX2_isName 0 = .ok (.iload_n 0, 1) := by decide +kernel
theorem dX2_isName_1 : decode cX2_isName 1 = .ok (.ifCond .lt 13, 3) := by decide +kernel
theorem dX2_isName_4 : decode cX2_isName 4 = .ok (.iload_n 0, 1) := by decide +kernel
theorem dX2_isName_5 : decode cX2_isName 5 = .ok (.bipush 10, 2) := by decide +kernel
theorem dX2_isName_7 : decode cX2_isName 7 = .ok (.if_icmp .ge 7, 3) := by decide +kernel
theorem dX2_isName_10 : decode cX2_isName 10 = .ok (.iconst 1, 1) := by decide +kernel
theorem dX2_isName_11 : decode cX2_isName 11 = .ok (.goto 4, 3) := by decide +kernel
theorem dX2_isName_14 : decode cX2_isName 14 = .ok (.iconst 0, 1) := by decide +kernel
theorem dX2_isName_15 : decode cX2_isName 15 = .ok (.ireturn, 1) := by decide +kernel
theorem dX2_isEndWay_0 : decode cX2_isEndWay 0 = .ok (.iload_n 0, 1) := by decide +kernel
theorem dX2_isEndWay_1 : decode cX2_isEndWay 1 = .ok (.ifCond .lt 20, 3) := by decide +kernel
theorem dX2_isEndWay_4 : decode cX2_isEndWay 4 = .ok (.iload_n 0, 1) := by decide +kernel
theorem dX2_isEndWay_5 : decode cX2_isEndWay 5 = .ok (.iload_n 2, 1) := by decide +kernel
theorem dX2_isEndWay_6 : decode cX2_isEndWay 6 = .ok (.ifCond .eq 7, 3) := by decide +kernel
theorem dX2_isEndWay_9 : decode cX2_isEndWay 9 = .ok (.iconst 1, 1) := by decide +kernel
theorem dX2_isEndWay_10 : decode cX2_isEndWay 10 = .ok (.goto 4, 3) := by decide +kernel
theorem dX2_isEndWay_13 : decode cX2_isEndWay 13 = .ok (.iload_n 1, 1) := by decide +kernel
theorem dX2_isEndWay_14 : decode cX2_isEndWay 14 = .ok (.if_icmp .gt 7, 3) := by decide +kernel
theorem dX2_isEndWay_17 : decode cX2_isEndWay 17 = .ok (.iconst 1, 1) := by decide +kernel
theorem dX2_isEndWay_18 : decode cX2_isEndWay 18 = .ok (.goto 4, 3) := by decide +kernel
theorem dX2_isEndWay_21 : decode cX2_isEndWay 21 = .ok (.iconst 0, 1) := by decide +kernel
theorem dX2_isEndWay_22 : decode cX2_isEndWay 22 = .ok (.ireturn, 1) := by decide +kernel
theorem dX2_oneIf_0 : decode cX2_oneIf 0 = .ok (.iload_n 0, 1) := by decide +kernel
theorem dX2_oneIf_1 : decode cX2_oneIf 1 = .ok (.ifCond .eq 7, 3) := by decide +kernel
theorem dX2_oneIf_4 : decode cX2_oneIf 4 = .ok (.iconst 1, 1) := by decide +kernel
theorem dX2_oneIf_5 : decode cX2_oneIf 5 = .ok (.goto 4, 3) := by decide +kernel
theorem dX2_oneIf_8 : decode cX2_oneIf 8 = .ok (.iconst 0, 1) := by decide +kernel
theorem dX2_oneIf_9 : decode cX2_oneIf 9 = .ok (.ireturn, 1) := by decide +kernel
theorem dX2_newThing_0 : decode cX2_newThing 0 = .ok (.aload_n 0, 1) := by decide +kernel
theorem dX2_newThing_1 : decode cX2_newThing 1 = .ok (.getfield 140, 3) := by decide +kernel
theorem dX2_newThing_4 : decode cX2_newThing 4 = .ok (.bipush 10, 2) := by decide +kernel
theorem dX2_newThing_6 : decode cX2_newThing 6 = .ok (.imul, 1) := by decide +kernel
theorem dX2_newThing_7 : decode cX2_newThing 7 = .ok (.iload_n 1, 1) := by decide +kernel
theorem dX2_newThing_8 : decode cX2_newThing 8 = .ok (.iadd, 1) := by decide +kernel
theorem dX2_newThing_9 : decode cX2_newThing 9 = .ok (.istore_n 2, 1) := by decide +kernel
theorem dX2_newThing_10 : decode cX2_newThing 10 = .ok (.aload_n 0, 1) := by decide +kernel
theorem dX2_newThing_11 : decode cX2_newThing 11 = .ok (.dup, 1) := by decide +kernel
theorem dX2_newThing_12 : decode cX2_newThing 12 = .ok (.getfield 140, 3) := by decide +kernel
theorem dX2_newThing_15 : decode cX2_newThing 15 = .ok (.iconst 1, 1) := by decide +kernel
theorem dX2_newThing_16 : decode cX2_newThing 16 = .ok (.iadd, 1) := by decide +kernel
theorem dX2_newThing_17 : decode cX2_newThing 17 = .ok (.putfield 140, 3) := by decide +kernel
theorem dX2_newThing_20 : decode cX2_newThing 20 = .ok (.iload_n 2, 1) := by decide +kernel
theorem dX2_newThing_21 : decode cX2_newThing 21 = .ok (.ireturn, 1) := by decide +kernel
set_option maxRecDepth 20000 in
theorem ggX2_noEnd_X2_refused : GoodIn wsX2_noEnd wsX2_refused := goodIn_r _ [5, 6, 7, 8, 9, 10, 11, 12, 13, 14, 15, 16] (by decide +kernel) (by decide +kernel)
set_option maxRecDepth 20000 in
theorem gX2_noEnd_X2_refused : GoodIn wsX2_noEnd (wsV RX2 62 RX2 yX2_refused wsX2_refused) := goodIn_app (goodIn_of _ (by decide +kernel)) ggX2_noEnd_X2_refused
theorem dX2_noEnd_0 : decode cX2_noEnd 0 = .ok (.iload_n 1, 1) := by decide +kernel
theorem dX2_noEnd_1 : decode cX2_noEnd 1 = .ok (.iconst 2, 1) := by decide +kernel
theorem dX2_noEnd_2 : decode cX2_noEnd 2 = .ok (.irem, 1) := by decide +kernel
theorem dX2_noEnd_3 : decode cX2_noEnd 3 = .ok (.ifCond .ne 12, 3) := by decide +kernel
theorem dX2_noEnd_6 : decode cX2_noEnd 6 = .ok (.aload_n 0, 1) := by decide +kernel
theorem dX2_noEnd_7 : decode cX2_noEnd 7 = .ok (.bipush (-6), 2) := by decide +kernel
theorem dX2_noEnd_9 : decode cX2_noEnd 9 = .ok (.invokevirtual 62, 3) := by decide +kernel
theorem dX2_noEnd_12 : decode cX2_noEnd 12 = .ok (.goto 5, 3) := by decide +kernel
theorem dX2_noEnd_15 : decode cX2_noEnd 15 = .ok (.bipush (-6), 2) := by decide +kernel
theorem dX2_noEnd_17 : decode cX2_noEnd 17 = .ok (.ireturn, 1) := by decide +kernel
theorem dX2_refused_0 : decode cX2_refused 0 = .ok (.iload_n 1, 1) := by decide +kernel
theorem dX2_refused_1 : decode cX2_refused 1 = .ok (.tableswitch 66 (-7) (-5) #[53, 27, 40], 27) := by decide +kernel
theorem dX2_refused_28 : decode cX2_refused 28 = .ok (.aload_n 0, 1) := by decide +kernel
theorem dX2_refused_29 : decode cX2_refused 29 = .ok (.dup, 1) := by decide +kernel
theorem dX2_refused_30 : decode cX2_refused 30 = .ok (.getfield 143, 3) := by decide +kernel
theorem dX2_refused_33 : decode cX2_refused 33 = .ok (.iconst 1, 1) := by decide +kernel
theorem dX2_refused_34 : decode cX2_refused 34 = .ok (.iadd, 1) := by decide +kernel
theorem dX2_refused_35 : decode cX2_refused 35 = .ok (.putfield 143, 3) := by decide +kernel
theorem dX2_refused_38 : decode cX2_refused 38 = .ok (.goto 39, 3) := by decide +kernel
theorem dX2_refused_41 : decode cX2_refused 41 = .ok (.aload_n 0, 1) := by decide +kernel
theorem dX2_refused_42 : decode cX2_refused 42 = .ok (.dup, 1) := by decide +kernel
theorem dX2_refused_43 : decode cX2_refused 43 = .ok (.getfield 146, 3) := by decide +kernel
theorem dX2_refused_46 : decode cX2_refused 46 = .ok (.iconst 1, 1) := by decide +kernel
theorem dX2_refused_47 : decode cX2_refused 47 = .ok (.iadd, 1) := by decide +kernel
theorem dX2_refused_48 : decode cX2_refused 48 = .ok (.putfield 146, 3) := by decide +kernel
theorem dX2_refused_51 : decode cX2_refused 51 = .ok (.goto 26, 3) := by decide +kernel
theorem dX2_refused_54 : decode cX2_refused 54 = .ok (.aload_n 0, 1) := by decide +kernel
theorem dX2_refused_55 : decode cX2_refused 55 = .ok (.dup, 1) := by decide +kernel
theorem dX2_refused_56 : decode cX2_refused 56 = .ok (.getfield 149, 3) := by decide +kernel
theorem dX2_refused_59 : decode cX2_refused 59 = .ok (.iconst 1, 1) := by decide +kernel
theorem dX2_refused_60 : decode cX2_refused 60 = .ok (.iadd, 1) := by decide +kernel
theorem dX2_refused_61 : decode cX2_refused 61 = .ok (.putfield 149, 3) := by decide +kernel
theorem dX2_refused_64 : decode cX2_refused 64 = .ok (.goto 13, 3) := by decide +kernel
theorem dX2_refused_67 : decode cX2_refused 67 = .ok (.aload_n 0, 1) := by decide +kernel
theorem dX2_refused_68 : decode cX2_refused 68 = .ok (.dup, 1) := by decide +kernel
theorem dX2_refused_69 : decode cX2_refused 69 = .ok (.getfield 152, 3) := by decide +kernel
theorem dX2_refused_72 : decode cX2_refused 72 = .ok (.iconst 1, 1) := by decide +kernel
theorem dX2_refused_73 : decode cX2_refused 73 = .ok (.iadd, 1) := by decide +kernel
theorem dX2_refused_74 : decode cX2_refused 74 = .ok (.putfield 152, 3) := by decide +kernel
theorem dX2_refused_77 : decode cX2_refused 77 = .ok (.iload_n 1, 1) := by decide +kernel
theorem dX2_refused_78 : decode cX2_refused 78 = .ok (.ireturn, 1) := by decide +kernel
set_option maxRecDepth 20000 in
theorem ggX2_goOver_X2_pegOf : GoodIn wsX2_goOver wsX2_pegOf := goodIn_r _ [5, 6, 51, 52, 53, 54, 55, 56, 57] (by decide +kernel) (by decide +kernel)
set_option maxRecDepth 20000 in
theorem gX2_goOver_X2_pegOf : GoodIn wsX2_goOver (wsV RX2 108 RX2 yX2_pegOf wsX2_pegOf) := goodIn_app (goodIn_of _ (by decide +kernel)) ggX2_goOver_X2_pegOf
set_option maxRecDepth 20000 in
theorem ggX2_goOver_X0_isOld : GoodIn wsX2_goOver wsX0_isOld := goodIn_r _ [11, 12, 13, 14, 15, 16, 17, 18, 19, 20, 45, 46, 47, 48, 49, 50, 58, 59, 60] (by decide +kernel) (by decide +kernel)
set_option maxRecDepth 20000 in
theorem gX2_goOver_X0_isOld : GoodIn wsX2_goOver (wsV RX2 123 RX0 yX0_isOld wsX0_isOld) := goodIn_app (goodIn_of _ (by decide +kernel)) ggX2_goOver_X0_isOld
set_option maxRecDepth 20000 in
theorem ggX2_goOver_X2_refused : GoodIn wsX2_goOver wsX2_refused := goodIn_r _ [24, 25, 26, 27, 28, 51, 52, 53, 54, 55, 56, 57] (by decide +kernel) (by decide +kernel)
set_option maxRecDepth 20000 in
theorem gX2_goOver_X2_refused : GoodIn wsX2_goOver (wsV RX2 62 RX2 yX2_refused wsX2_refused) := goodIn_app (goodIn_of _ (by decide +kernel)) ggX2_goOver_X2_refused
set_option maxRecDepth 20000 in
theorem ggX2_goOver_X1_hasThingAt : GoodIn wsX2_goOver wsX1_hasThingAt := goodIn_r _ [32, 20, 58, 59, 60] (by decide +kernel) (by decide +kernel)
set_option maxRecDepth 20000 in
theorem gX2_goOver_X1_hasThingAt : GoodIn wsX2_goOver (wsV RX2 59 RX1 yX1_hasThingAt wsX1_hasThingAt) := goodIn_app (goodIn_of _ (by decide +kernel)) ggX2_goOver_X1_hasThingAt
set_option maxRecDepth 20000 in
theorem ggX2_goOver_X1_thingAt : GoodIn wsX2_goOver wsX1_thingAt := goodIn_r _ [36, 37, 58, 59, 60] (by decide +kernel) (by decide +kernel)
set_option maxRecDepth 20000 in
theorem gX2_goOver_X1_thingAt : GoodIn wsX2_goOver (wsV RX2 53 RX1 yX1_thingAt wsX1_thingAt) := goodIn_app (goodIn_of _ (by decide +kernel)) ggX2_goOver_X1_thingAt
set_option maxRecDepth 20000 in
theorem ggX2_goOver_X0_hold : GoodIn wsX2_goOver wsX0_hold := goodIn_r _ [41, 42, 43, 44, 45, 46, 47, 48, 49, 50] (by decide +kernel) (by decide +kernel)
set_option maxRecDepth 20000 in
theorem gX2_goOver_X0_hold : GoodIn wsX2_goOver (wsV RX2 137 RX0 yX0_hold wsX0_hold) := goodIn_app (goodIn_of _ (by decide +kernel)) ggX2_goOver_X0_hold
theorem dX2_goOver_0 : decode cX2_goOver 0 = .ok (.aload_n 0, 1) := by decide +kernel
theorem dX2_goOver_1 : decode cX2_goOver 1 = .ok (.iload_n 1, 1) := by decide +kernel
theorem dX2_goOver_2 : decode cX2_goOver 2 = .ok (.invokevirtual 108, 3) := by decide +kernel
theorem dX2_goOver_5 : decode cX2_goOver 5 = .ok (.astore_n 3, 1) := by decide +kernel
theorem dX2_goOver_6 : decode cX2_goOver 6 = .ok (.aload_n 3, 1) := by decide +kernel
theorem dX2_goOver_7 : decode cX2_goOver 7 = .ok (.ifnonnull 5, 3) := by decide +kernel
theorem dX2_goOver_10 : decode cX2_goOver 10 = .ok (.iconst (-1), 1) := by decide +kernel
theorem dX2_goOver_11 : decode cX2_goOver 11 = .ok (.ireturn, 1) := by decide +kernel
theorem dX2_goOver_12 : decode cX2_goOver 12 = .ok (.aload_n 3, 1) := by decide +kernel
theorem dX2_goOver_13 : decode cX2_goOver 13 = .ok (.getfield 119, 3) := by decide +kernel
theorem dX2_goOver_16 : decode cX2_goOver 16 = .ok (.astore 4, 2) := by decide +kernel
theorem dX2_goOver_18 : decode cX2_goOver 18 = .ok (.aload 4, 2) := by decide +kernel
theorem dX2_goOver_20 : decode cX2_goOver 20 = .ok (.ifnonnull 6, 3) := by decide +kernel
theorem dX2_goOver_23 : decode cX2_goOver 23 = .ok (.bipush (-2), 2) := by decide +kernel
theorem dX2_goOver_25 : decode cX2_goOver 25 = .ok (.ireturn, 1) := by decide +kernel
theorem dX2_goOver_26 : decode cX2_goOver 26 = .ok (.aload_n 3, 1) := by decide +kernel
theorem dX2_goOver_27 : decode cX2_goOver 27 = .ok (.invokevirtual 123, 3) := by decide +kernel
theorem dX2_goOver_30 : decode cX2_goOver 30 = .ok (.ifCond .eq 10, 3) := by decide +kernel
theorem dX2_goOver_33 : decode cX2_goOver 33 = .ok (.aload_n 0, 1) := by decide +kernel
theorem dX2_goOver_34 : decode cX2_goOver 34 = .ok (.bipush (-4), 2) := by decide +kernel
theorem dX2_goOver_36 : decode cX2_goOver 36 = .ok (.invokevirtual 62, 3) := by decide +kernel
theorem dX2_goOver_39 : decode cX2_goOver 39 = .ok (.ireturn, 1) := by decide +kernel
theorem dX2_goOver_40 : decode cX2_goOver 40 = .ok (.iload_n 2, 1) := by decide +kernel
theorem dX2_goOver_41 : decode cX2_goOver 41 = .ok (.ifCond .eq 10, 3) := by decide +kernel
theorem dX2_goOver_44 : decode cX2_goOver 44 = .ok (.aload_n 3, 1) := by decide +kernel
theorem dX2_goOver_45 : decode cX2_goOver 45 = .ok (.getfield 127, 3) := by decide +kernel
theorem dX2_goOver_48 : decode cX2_goOver 48 = .ok (.goto 9, 3) := by decide +kernel
theorem dX2_goOver_51 : decode cX2_goOver 51 = .ok (.aload_n 3, 1) := by decide +kernel
theorem dX2_goOver_52 : decode cX2_goOver 52 = .ok (.getfield 127, 3) := by decide +kernel
theorem dX2_goOver_55 : decode cX2_goOver 55 = .ok (.iconst 1, 1) := by decide +kernel
theorem dX2_goOver_56 : decode cX2_goOver 56 = .ok (.isub, 1) := by decide +kernel
theorem dX2_goOver_57 : decode cX2_goOver 57 = .ok (.istore 5, 2) := by decide +kernel
theorem dX2_goOver_59 : decode cX2_goOver 59 = .ok (.aload 4, 2) := by decide +kernel
theorem dX2_goOver_61 : decode cX2_goOver 61 = .ok (.iload 5, 2) := by decide +kernel
theorem dX2_goOver_63 : decode cX2_goOver 63 = .ok (.invokevirtual 59, 3) := by decide +kernel
theorem dX2_goOver_66 : decode cX2_goOver 66 = .ok (.ifCond .ne 15, 3) := by decide +kernel
theorem dX2_goOver_69 : decode cX2_goOver 69 = .ok (.aload_n 3, 1) := by decide +kernel
theorem dX2_goOver_70 : decode cX2_goOver 70 = .ok (.iconst 1, 1) := by decide +kernel
theorem dX2_goOver_71 : decode cX2_goOver 71 = .ok (.putfield 161, 3) := by decide +kernel
theorem dX2_goOver_74 : decode cX2_goOver 74 = .ok (.aload_n 0, 1) := by decide +kernel
theorem dX2_goOver_75 : decode cX2_goOver 75 = .ok (.bipush (-6), 2) := by decide +kernel
theorem dX2_goOver_77 : decode cX2_goOver 77 = .ok (.invokevirtual 62, 3) := by decide +kernel
theorem dX2_goOver_80 : decode cX2_goOver 80 = .ok (.ireturn, 1) := by decide +kernel
theorem dX2_goOver_81 : decode cX2_goOver 81 = .ok (.aload_n 3, 1) := by decide +kernel
theorem dX2_goOver_82 : decode cX2_goOver 82 = .ok (.iload_n 2, 1) := by decide +kernel
theorem dX2_goOver_83 : decode cX2_goOver 83 = .ok (.ifCond .eq 10, 3) := by decide +kernel
theorem dX2_goOver_86 : decode cX2_goOver 86 = .ok (.iload 5, 2) := by decide +kernel
theorem dX2_goOver_88 : decode cX2_goOver 88 = .ok (.iconst 1, 1) := by decide +kernel
theorem dX2_goOver_89 : decode cX2_goOver 89 = .ok (.iadd, 1) := by decide +kernel
theorem dX2_goOver_90 : decode cX2_goOver 90 = .ok (.goto 5, 3) := by decide +kernel
theorem dX2_goOver_93 : decode cX2_goOver 93 = .ok (.iload 5, 2) := by decide +kernel
theorem dX2_goOver_95 : decode cX2_goOver 95 = .ok (.putfield 127, 3) := by decide +kernel
theorem dX2_goOver_98 : decode cX2_goOver 98 = .ok (.aload_n 3, 1) := by decide +kernel
theorem dX2_goOver_99 : decode cX2_goOver 99 = .ok (.iload 5, 2) := by decide +kernel
theorem dX2_goOver_101 : decode cX2_goOver 101 = .ok (.aload 4, 2) := by decide +kernel
theorem dX2_goOver_103 : decode cX2_goOver 103 = .ok (.iload 5, 2) := by decide +kernel
theorem dX2_goOver_105 : decode cX2_goOver 105 = .ok (.invokevirtual 53, 3) := by decide +kernel
theorem dX2_goOver_108 : decode cX2_goOver 108 = .ok (.invokevirtual 137, 3) := by decide +kernel
theorem dX2_goOver_111 : decode cX2_goOver 111 = .ok (.ireturn, 1) := by decide +kernel
set_option maxRecDepth 20000 in
theorem ggX2_handFault_X0_isOld : GoodIn wsX2_handFault wsX0_isOld := goodIn_r _ [5, 6, 7, 8, 9, 10, 11, 12, 13, 14, 33, 34, 35, 36, 37, 38, 39, 40, 41] (by decide +kernel) (by decide +kernel)
set_option maxRecDepth 20000 in
theorem gX2_handFault_X0_isOld : GoodIn wsX2_handFault (wsV RX2 123 RX0 yX0_isOld wsX0_isOld) := goodIn_app (goodIn_of _ (by decide +kernel)) ggX2_handFault_X0_isOld
set_option maxRecDepth 20000 in
theorem ggX2_handFault_X2_refused : GoodIn wsX2_handFault wsX2_refused := goodIn_r _ [19, 20, 21, 22, 23, 42, 43, 44, 45, 46, 47, 48] (by decide +kernel) (by decide +kernel)
set_option maxRecDepth 20000 in
theorem gX2_handFault_X2_refused : GoodIn wsX2_handFault (wsV RX2 62 RX2 yX2_refused wsX2_refused) := goodIn_app (goodIn_of _ (by decide +kernel)) ggX2_handFault_X2_refused
set_option maxRecDepth 20000 in
theorem ggX2_handFault_X1_hasThingAt : GoodIn wsX2_handFault wsX1_hasThingAt := goodIn_r _ [27, 14, 39, 40, 41] (by decide +kernel) (by decide +kernel)
set_option maxRecDepth 20000 in
theorem gX2_handFault_X1_hasThingAt : GoodIn wsX2_handFault (wsV RX2 59 RX1 yX1_hasThingAt wsX1_hasThingAt) := goodIn_app (goodIn_of _ (by decide +kernel)) ggX2_handFault_X1_hasThingAt
set_option maxRecDepth 20000 in
theorem ggX2_handFault_X1_thingAt : GoodIn wsX2_handFault wsX1_thingAt := goodIn_r _ [31, 32, 39, 40, 41] (by decide +kernel) (by decide +kernel)
set_option maxRecDepth 20000 in
theorem gX2_handFault_X1_thingAt : GoodIn wsX2_handFault (wsV RX2 53 RX1 yX1_thingAt wsX1_thingAt) := goodIn_app (goodIn_of _ (by decide +kernel)) ggX2_handFault_X1_thingAt
theorem dX2_handFault_0 : decode cX2_handFault 0 = .ok (.aload_n 1, 1) := by decide +kernel
theorem dX2_handFault_1 : decode cX2_handFault 1 = .ok (.invokevirtual 123, 3) := by decide +kernel
theorem dX2_handFault_4 : decode cX2_handFault 4 = .ok (.ifCond .eq 10, 3) := by decide +kernel
theorem dX2_handFault_7 : decode cX2_handFault 7 = .ok (.aload_n 0, 1) := by decide +kernel
theorem dX2_handFault_8 : decode cX2_handFault 8 = .ok (.bipush (-4), 2) := by decide +kernel
theorem dX2_handFault_10 : decode cX2_handFault 10 = .ok (.invokevirtual 62, 3) := by decide +kernel
theorem dX2_handFault_13 : decode cX2_handFault 13 = .ok (.ireturn, 1) := by decide +kernel
theorem dX2_handFault_14 : decode cX2_handFault 14 = .ok (.aload_n 1, 1) := by decide +kernel
theorem dX2_handFault_15 : decode cX2_handFault 15 = .ok (.getfield 161, 3) := by decide +kernel
theorem dX2_handFault_18 : decode cX2_handFault 18 = .ok (.ifCond .eq 6, 3) := by decide +kernel
theorem dX2_handFault_21 : decode cX2_handFault 21 = .ok (.bipush (-8), 2) := by decide +kernel
theorem dX2_handFault_23 : decode cX2_handFault 23 = .ok (.ireturn, 1) := by decide +kernel
theorem dX2_handFault_24 : decode cX2_handFault 24 = .ok (.aload_n 2, 1) := by decide +kernel
theorem dX2_handFault_25 : decode cX2_handFault 25 = .ok (.aload_n 1, 1) := by decide +kernel
theorem dX2_handFault_26 : decode cX2_handFault 26 = .ok (.getfield 134, 3) := by decide +kernel
theorem dX2_handFault_29 : decode cX2_handFault 29 = .ok (.invokevirtual 59, 3) := by decide +kernel
theorem dX2_handFault_32 : decode cX2_handFault 32 = .ok (.ifCond .ne 10, 3) := by decide +kernel
theorem dX2_handFault_35 : decode cX2_handFault 35 = .ok (.aload_n 0, 1) := by decide +kernel
theorem dX2_handFault_36 : decode cX2_handFault 36 = .ok (.bipush (-7), 2) := by decide +kernel
theorem dX2_handFault_38 : decode cX2_handFault 38 = .ok (.invokevirtual 62, 3) := by decide +kernel
theorem dX2_handFault_41 : decode cX2_handFault 41 = .ok (.ireturn, 1) := by decide +kernel
theorem dX2_handFault_42 : decode cX2_handFault 42 = .ok (.aload_n 2, 1) := by decide +kernel
theorem dX2_handFault_43 : decode cX2_handFault 43 = .ok (.aload_n 1, 1) := by decide +kernel
theorem dX2_handFault_44 : decode cX2_handFault 44 = .ok (.getfield 134, 3) := by decide +kernel
theorem dX2_handFault_47 : decode cX2_handFault 47 = .ok (.invokevirtual 53, 3) := by decide +kernel
theorem dX2_handFault_50 : decode cX2_handFault 50 = .ok (.aload_n 1, 1) := by decide +kernel
theorem dX2_handFault_51 : decode cX2_handFault 51 = .ok (.getfield 165, 3) := by decide +kernel
theorem dX2_handFault_54 : decode cX2_handFault 54 = .ok (.if_icmp .ne 7, 3) := by decide +kernel
theorem dX2_handFault_57 : decode cX2_handFault 57 = .ok (.iconst 0, 1) := by decide +kernel
theorem dX2_handFault_58 : decode cX2_handFault 58 = .ok (.goto 5, 3) := by decide +kernel
theorem dX2_handFault_61 : decode cX2_handFault 61 = .ok (.bipush (-8), 2) := by decide +kernel
theorem dX2_handFault_63 : decode cX2_handFault 63 = .ok (.ireturn, 1) := by decide +kernel
theorem dX2_standingPegs_0 : decode cX2_standingPegs 0 = .ok (.iconst 0, 1) := by decide +kernel
theorem dX2_standingPegs_1 : decode cX2_standingPegs 1 = .ok (.istore_n 1, 1) := by decide +kernel
theorem dX2_standingPegs_2 : decode cX2_standingPegs 2 = .ok (.iconst 0, 1) := by decide +kernel
theorem dX2_standingPegs_3 : decode cX2_standingPegs 3 = .ok (.istore_n 2, 1) := by decide +kernel
theorem dX2_standingPegs_4 : decode cX2_standingPegs 4 = .ok (.iload_n 2, 1) := by decide +kernel
theorem dX2_standingPegs_5 : decode cX2_standingPegs 5 = .ok (.aload_n 0, 1) := by decide +kernel
theorem dX2_standingPegs_6 : decode cX2_standingPegs 6 = .ok (.getfield 17, 3) := by decide +kernel
theorem dX2_standingPegs_9 : decode cX2_standingPegs 9 = .ok (.arraylength, 1) := by decide +kernel
theorem dX2_standingPegs_10 : decode cX2_standingPegs 10 = .ok (.if_icmp .ge 24, 3) := by decide +kernel
theorem dX2_standingPegs_13 : decode cX2_standingPegs 13 = .ok (.aload_n 0, 1) := by decide +kernel
theorem dX2_standingPegs_14 : decode cX2_standingPegs 14 = .ok (.getfield 17, 3) := by decide +kernel
theorem dX2_standingPegs_17 : decode cX2_standingPegs 17 = .ok (.iload_n 2, 1) := by decide +kernel
theorem dX2_standingPegs_18 : decode cX2_standingPegs 18 = .ok (.aaload, 1) := by decide +kernel
theorem dX2_standingPegs_19 : decode cX2_standingPegs 19 = .ok (.getfield 119, 3) := by decide +kernel
theorem dX2_standingPegs_22 : decode cX2_standingPegs 22 = .ok (.ifnull 6, 3) := by decide +kernel
theorem dX2_standingPegs_25 : decode cX2_standingPegs 25 = .ok (.iinc 1 1, 3) := by decide +kernel
theorem dX2_standingPegs_28 : decode cX2_standingPegs 28 = .ok (.iinc 2 1, 3) := by decide +kernel
theorem dX2_standingPegs_31 : decode cX2_standingPegs 31 = .ok (.goto (-27), 3) := by decide +kernel
theorem dX2_standingPegs_34 : decode cX2_standingPegs 34 = .ok (.iload_n 1, 1) := by decide +kernel
theorem dX2_standingPegs_35 : decode cX2_standingPegs 35 = .ok (.ireturn, 1) := by decide +kernel
set_option maxRecDepth 20000 in
theorem ggX2_oldPegs_X0_isOld : GoodIn wsX2_oldPegs wsX0_isOld := goodIn_r _ [6, 7, 8, 9, 10, 11, 12, 13, 14, 15, 23, 24, 25, 26, 27, 28, 29, 30, 31] (by decide +kernel) (by decide +kernel)
set_option maxRecDepth 20000 in
theorem gX2_oldPegs_X0_isOld : GoodIn wsX2_oldPegs (wsV RX2 123 RX0 yX0_isOld wsX0_isOld) := goodIn_app (goodIn_of _ (by decide +kernel)) ggX2_oldPegs_X0_isOld
theorem dX2_oldPegs_0 : decode cX2_oldPegs 0 = .ok (.iconst 0, 1) := by decide +kernel
theorem dX2_oldPegs_1 : decode cX2_oldPegs 1 = .ok (.istore_n 1, 1) := by decide +kernel
theorem dX2_oldPegs_2 : decode cX2_oldPegs 2 = .ok (.iconst 0, 1) := by decide +kernel
theorem dX2_oldPegs_3 : decode cX2_oldPegs 3 = .ok (.istore_n 2, 1) := by decide +kernel
theorem dX2_oldPegs_4 : decode cX2_oldPegs 4 = .ok (.iload_n 2, 1) := by decide +kernel
theorem dX2_oldPegs_5 : decode cX2_oldPegs 5 = .ok (.aload_n 0, 1) := by decide +kernel
theorem dX2_oldPegs_6 : decode cX2_oldPegs 6 = .ok (.getfield 17, 3) := by decide +kernel
theorem dX2_oldPegs_9 : decode cX2_oldPegs 9 = .ok (.arraylength, 1) := by decide +kernel
theorem dX2_oldPegs_10 : decode cX2_oldPegs 10 = .ok (.if_icmp .ge 24, 3) := by decide +kernel
theorem dX2_oldPegs_13 : decode cX2_oldPegs 13 = .ok (.aload_n 0, 1) := by decide +kernel
theorem dX2_oldPegs_14 : decode cX2_oldPegs 14 = .ok (.getfield 17, 3) := by decide +kernel
theorem dX2_oldPegs_17 : decode cX2_oldPegs 17 = .ok (.iload_n 2, 1) := by decide +kernel
theorem dX2_oldPegs_18 : decode cX2_oldPegs 18 = .ok (.aaload, 1) := by decide +kernel
theorem dX2_oldPegs_19 : decode cX2_oldPegs 19 = .ok (.invokevirtual 123, 3) := by decide +kernel
theorem dX2_oldPegs_22 : decode cX2_oldPegs 22 = .ok (.ifCond .eq 6, 3) := by decide +kernel
theorem dX2_oldPegs_25 : decode cX2_oldPegs 25 = .ok (.iinc 1 1, 3) := by decide +kernel
theorem dX2_oldPegs_28 : decode cX2_oldPegs 28 = .ok (.iinc 2 1, 3) := by decide +kernel
theorem dX2_oldPegs_31 : decode cX2_oldPegs 31 = .ok (.goto (-27), 3) := by decide +kernel
theorem dX2_oldPegs_34 : decode cX2_oldPegs 34 = .ok (.iload_n 1, 1) := by decide +kernel
theorem dX2_oldPegs_35 : decode cX2_oldPegs 35 = .ok (.ireturn, 1) := by decide +kernel
