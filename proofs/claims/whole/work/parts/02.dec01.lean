theorem dX0_init_0 : decode cX0_init 0 = .ok (.aload_n 0, 1) := by decide +kernel
theorem dX0_init_1 : decode cX0_init 1 = .ok (.invokespecial 3, 3) := by decide +kernel
theorem dX0_init_4 : decode cX0_init 4 = .ok (.aload_n 0, 1) := by decide +kernel
theorem dX0_init_5 : decode cX0_init 5 = .ok (.iconst (-1), 1) := by decide +kernel
theorem dX0_init_6 : decode cX0_init 6 = .ok (.putfield 9, 3) := by decide +kernel
theorem dX0_init_9 : decode cX0_init 9 = .ok (.return_, 1) := by decide +kernel
theorem dX0_standIn_0 : decode cX0_standIn 0 = .ok (.aload_n 0, 1) := by decide +kernel
theorem dX0_standIn_1 : decode cX0_standIn 1 = .ok (.aload_n 1, 1) := by decide +kernel
theorem dX0_standIn_2 : decode cX0_standIn 2 = .ok (.putfield 15, 3) := by decide +kernel
theorem dX0_standIn_5 : decode cX0_standIn 5 = .ok (.aload_n 0, 1) := by decide +kernel
theorem dX0_standIn_6 : decode cX0_standIn 6 = .ok (.iload_n 2, 1) := by decide +kernel
theorem dX0_standIn_7 : decode cX0_standIn 7 = .ok (.putfield 19, 3) := by decide +kernel
theorem dX0_standIn_10 : decode cX0_standIn 10 = .ok (.aload_n 0, 1) := by decide +kernel
theorem dX0_standIn_11 : decode cX0_standIn 11 = .ok (.aload_n 1, 1) := by decide +kernel
theorem dX0_standIn_12 : decode cX0_standIn 12 = .ok (.getfield 22, 3) := by decide +kernel
theorem dX0_standIn_15 : decode cX0_standIn 15 = .ok (.putfield 27, 3) := by decide +kernel
theorem dX0_standIn_18 : decode cX0_standIn 18 = .ok (.aload_n 0, 1) := by decide +kernel
theorem dX0_standIn_19 : decode cX0_standIn 19 = .ok (.iconst (-1), 1) := by decide +kernel
theorem dX0_standIn_20 : decode cX0_standIn 20 = .ok (.putfield 9, 3) := by decide +kernel
theorem dX0_standIn_23 : decode cX0_standIn 23 = .ok (.aload_n 0, 1) := by decide +kernel
theorem dX0_standIn_24 : decode cX0_standIn 24 = .ok (.iconst 0, 1) := by decide +kernel
theorem dX0_standIn_25 : decode cX0_standIn 25 = .ok (.putfield 30, 3) := by decide +kernel
theorem dX0_standIn_28 : decode cX0_standIn 28 = .ok (.return_, 1) := by decide +kernel
theorem dX0_leave_0 : decode cX0_leave 0 = .ok (.aload_n 0, 1) := by decide +kernel
theorem dX0_leave_1 : decode cX0_leave 1 = .ok (.getfield 15, 3) := by decide +kernel
theorem dX0_leave_4 : decode cX0_leave 4 = .ok (.aload_n 1, 1) := by decide +kernel
theorem dX0_leave_5 : decode cX0_leave 5 = .ok (.if_acmp .ne 8, 3) := by decide +kernel
theorem dX0_leave_8 : decode cX0_leave 8 = .ok (.aload_n 0, 1) := by decide +kernel
theorem dX0_leave_9 : decode cX0_leave 9 = .ok (.aconst_null, 1) := by decide +kernel
theorem dX0_leave_10 : decode cX0_leave 10 = .ok (.putfield 15, 3) := by decide +kernel
theorem dX0_leave_13 : decode cX0_leave 13 = .ok (.return_, 1) := by decide +kernel
theorem dX0_hold_0 : decode cX0_hold 0 = .ok (.aload_n 0, 1) := by decide +kernel
theorem dX0_hold_1 : decode cX0_hold 1 = .ok (.iload_n 1, 1) := by decide +kernel
theorem dX0_hold_2 : decode cX0_hold 2 = .ok (.putfield 9, 3) := by decide +kernel
theorem dX0_hold_5 : decode cX0_hold 5 = .ok (.aload_n 0, 1) := by decide +kernel
theorem dX0_hold_6 : decode cX0_hold 6 = .ok (.iload_n 2, 1) := by decide +kernel
theorem dX0_hold_7 : decode cX0_hold 7 = .ok (.putfield 34, 3) := by decide +kernel
theorem dX0_hold_10 : decode cX0_hold 10 = .ok (.aload_n 0, 1) := by decide +kernel
theorem dX0_hold_11 : decode cX0_hold 11 = .ok (.iconst 0, 1) := by decide +kernel
theorem dX0_hold_12 : decode cX0_hold 12 = .ok (.putfield 30, 3) := by decide +kernel
theorem dX0_hold_15 : decode cX0_hold 15 = .ok (.iload_n 2, 1) := by decide +kernel
theorem dX0_hold_16 : decode cX0_hold 16 = .ok (.ireturn, 1) := by decide +kernel
set_option maxRecDepth 20000 in
theorem ggX0_isOld_X1_canPutAt : GoodIn wsX0_isOld wsX1_canPutAt := goodIn_r _ [8, 9, 16, 17, 18] (by decide +kernel) (by decide +kernel)
set_option maxRecDepth 20000 in
theorem gX0_isOld_X1_canPutAt : GoodIn wsX0_isOld (wsV RX0 37 RX1 yX1_canPutAt wsX1_canPutAt) := goodIn_app (goodIn_of _ (by decide +kernel)) ggX0_isOld_X1_canPutAt
theorem dX0_isOld_0 : decode cX0_isOld 0 = .ok (.aload_n 0, 1) := by decide +kernel
theorem dX0_isOld_1 : decode cX0_isOld 1 = .ok (.getfield 15, 3) := by decide +kernel
theorem dX0_isOld_4 : decode cX0_isOld 4 = .ok (.ifnull 35, 3) := by decide +kernel
theorem dX0_isOld_7 : decode cX0_isOld 7 = .ok (.aload_n 0, 1) := by decide +kernel
theorem dX0_isOld_8 : decode cX0_isOld 8 = .ok (.getfield 27, 3) := by decide +kernel
theorem dX0_isOld_11 : decode cX0_isOld 11 = .ok (.aload_n 0, 1) := by decide +kernel
theorem dX0_isOld_12 : decode cX0_isOld 12 = .ok (.getfield 15, 3) := by decide +kernel
theorem dX0_isOld_15 : decode cX0_isOld 15 = .ok (.getfield 22, 3) := by decide +kernel
theorem dX0_isOld_18 : decode cX0_isOld 18 = .ok (.if_icmp .ne 17, 3) := by decide +kernel
theorem dX0_isOld_21 : decode cX0_isOld 21 = .ok (.aload_n 0, 1) := by decide +kernel
theorem dX0_isOld_22 : decode cX0_isOld 22 = .ok (.getfield 15, 3) := by decide +kernel
theorem dX0_isOld_25 : decode cX0_isOld 25 = .ok (.aload_n 0, 1) := by decide +kernel
theorem dX0_isOld_26 : decode cX0_isOld 26 = .ok (.getfield 19, 3) := by decide +kernel
theorem dX0_isOld_29 : decode cX0_isOld 29 = .ok (.invokevirtual 37, 3) := by decide +kernel
theorem dX0_isOld_32 : decode cX0_isOld 32 = .ok (.ifCond .ne 7, 3) := by decide +kernel
theorem dX0_isOld_35 : decode cX0_isOld 35 = .ok (.iconst 1, 1) := by decide +kernel
theorem dX0_isOld_36 : decode cX0_isOld 36 = .ok (.goto 4, 3) := by decide +kernel
theorem dX0_isOld_39 : decode cX0_isOld 39 = .ok (.iconst 0, 1) := by decide +kernel
theorem dX0_isOld_40 : decode cX0_isOld 40 = .ok (.ireturn, 1) := by decide +kernel
theorem dX1_init_0 : decode cX1_init 0 = .ok (.aload_n 0, 1) := by decide +kernel
theorem dX1_init_1 : decode cX1_init 1 = .ok (.invokespecial 3, 3) := by decide +kernel
theorem dX1_init_4 : decode cX1_init 4 = .ok (.aload_n 0, 1) := by decide +kernel
theorem dX1_init_5 : decode cX1_init 5 = .ok (.bipush 60, 2) := by decide +kernel
theorem dX1_init_7 : decode cX1_init 7 = .ok (.newarray .int, 2) := by decide +kernel
theorem dX1_init_9 : decode cX1_init 9 = .ok (.putfield 9, 3) := by decide +kernel
theorem dX1_init_12 : decode cX1_init 12 = .ok (.return_, 1) := by decide +kernel
theorem dX1_hasThingAt_0 : decode cX1_hasThingAt 0 = .ok (.iload_n 1, 1) := by decide +kernel
theorem dX1_hasThingAt_1 : decode cX1_hasThingAt 1 = .ok (.ifCond .lt 15, 3) := by decide +kernel
theorem dX1_hasThingAt_4 : decode cX1_hasThingAt 4 = .ok (.iload_n 1, 1) := by decide +kernel
theorem dX1_hasThingAt_5 : decode cX1_hasThingAt 5 = .ok (.aload_n 0, 1) := by decide +kernel
theorem dX1_hasThingAt_6 : decode cX1_hasThingAt 6 = .ok (.getfield 15, 3) := by decide +kernel
theorem dX1_hasThingAt_9 : decode cX1_hasThingAt 9 = .ok (.if_icmp .ge 7, 3) := by decide +kernel
theorem dX1_hasThingAt_12 : decode cX1_hasThingAt 12 = .ok (.iconst 1, 1) := by decide +kernel
theorem dX1_hasThingAt_13 : decode cX1_hasThingAt 13 = .ok (.goto 4, 3) := by decide +kernel
theorem dX1_hasThingAt_16 : decode cX1_hasThingAt 16 = .ok (.iconst 0, 1) := by decide +kernel
theorem dX1_hasThingAt_17 : decode cX1_hasThingAt 17 = .ok (.ireturn, 1) := by decide +kernel
theorem dX1_canPutAt_0 : decode cX1_canPutAt 0 = .ok (.iload_n 1, 1) := by decide +kernel
theorem dX1_canPutAt_1 : decode cX1_canPutAt 1 = .ok (.ifCond .lt 15, 3) := by decide +kernel
theorem dX1_canPutAt_4 : decode cX1_canPutAt 4 = .ok (.iload_n 1, 1) := by decide +kernel
theorem dX1_canPutAt_5 : decode cX1_canPutAt 5 = .ok (.aload_n 0, 1) := by decide +kernel
theorem dX1_canPutAt_6 : decode cX1_canPutAt 6 = .ok (.getfield 15, 3) := by decide +kernel
theorem dX1_canPutAt_9 : decode cX1_canPutAt 9 = .ok (.if_icmp .gt 7, 3) := by decide +kernel
theorem dX1_canPutAt_12 : decode cX1_canPutAt 12 = .ok (.iconst 1, 1) := by decide +kernel
theorem dX1_canPutAt_13 : decode cX1_canPutAt 13 = .ok (.goto 4, 3) := by decide +kernel
theorem dX1_canPutAt_16 : decode cX1_canPutAt 16 = .ok (.iconst 0, 1) := by decide +kernel
theorem dX1_canPutAt_17 : decode cX1_canPutAt 17 = .ok (.ireturn, 1) := by decide +kernel
theorem dX1_hasRoomFor_0 : decode cX1_hasRoomFor 0 = .ok (.aload_n 0, 1) := by decide +kernel
theorem dX1_hasRoomFor_1 : decode cX1_hasRoomFor 1 = .ok (.getfield 15, 3) := by decide +kernel
theorem dX1_hasRoomFor_4 : decode cX1_hasRoomFor 4 = .ok (.iload_n 1, 1) := by decide +kernel
theorem dX1_hasRoomFor_5 : decode cX1_hasRoomFor 5 = .ok (.iadd, 1) := by decide +kernel
theorem dX1_hasRoomFor_6 : decode cX1_hasRoomFor 6 = .ok (.bipush 60, 2) := by decide +kernel
theorem dX1_hasRoomFor_8 : decode cX1_hasRoomFor 8 = .ok (.if_icmp .gt 7, 3) := by decide +kernel
theorem dX1_hasRoomFor_11 : decode cX1_hasRoomFor 11 = .ok (.iconst 1, 1) := by decide +kernel
theorem dX1_hasRoomFor_12 : decode cX1_hasRoomFor 12 = .ok (.goto 4, 3) := by decide +kernel
theorem dX1_hasRoomFor_15 : decode cX1_hasRoomFor 15 = .ok (.iconst 0, 1) := by decide +kernel
theorem dX1_hasRoomFor_16 : decode cX1_hasRoomFor 16 = .ok (.ireturn, 1) := by decide +kernel
theorem dX1_thingAt_0 : decode cX1_thingAt 0 = .ok (.aload_n 0, 1) := by decide +kernel
theorem dX1_thingAt_1 : decode cX1_thingAt 1 = .ok (.getfield 9, 3) := by decide +kernel
theorem dX1_thingAt_4 : decode cX1_thingAt 4 = .ok (.iload_n 1, 1) := by decide +kernel
theorem dX1_thingAt_5 : decode cX1_thingAt 5 = .ok (.iaload, 1) := by decide +kernel
theorem dX1_thingAt_6 : decode cX1_thingAt 6 = .ok (.ireturn, 1) := by decide +kernel
theorem dX1_layAt_0 : decode cX1_layAt 0 = .ok (.aload_n 0, 1) := by decide +kernel
theorem dX1_layAt_1 : decode cX1_layAt 1 = .ok (.getfield 9, 3) := by decide +kernel
theorem dX1_layAt_4 : decode cX1_layAt 4 = .ok (.iload_n 1, 1) := by decide +kernel
theorem dX1_layAt_5 : decode cX1_layAt 5 = .ok (.iaload, 1) := by decide +kernel
theorem dX1_layAt_6 : decode cX1_layAt 6 = .ok (.istore_n 3, 1) := by decide +kernel
theorem dX1_layAt_7 : decode cX1_layAt 7 = .ok (.aload_n 0, 1) := by decide +kernel
theorem dX1_layAt_8 : decode cX1_layAt 8 = .ok (.getfield 9, 3) := by decide +kernel
theorem dX1_layAt_11 : decode cX1_layAt 11 = .ok (.iload_n 1, 1) := by decide +kernel
theorem dX1_layAt_12 : decode cX1_layAt 12 = .ok (.iload_n 2, 1) := by decide +kernel
theorem dX1_layAt_13 : decode cX1_layAt 13 = .ok (.iastore, 1) := by decide +kernel
theorem dX1_layAt_14 : decode cX1_layAt 14 = .ok (.iload_n 3, 1) := by decide +kernel
theorem dX1_layAt_15 : decode cX1_layAt 15 = .ok (.ireturn, 1) := by decide +kernel
set_option maxRecDepth 20000 in
theorem ggX1_putAt_X1_openAt : GoodIn wsX1_putAt wsX1_openAt := goodIn_r _ [6, 7, 1, 8, 9, 10, 11] (by decide +kernel) (by decide +kernel)
set_option maxRecDepth 20000 in
theorem gX1_putAt_X1_openAt : GoodIn wsX1_putAt (wsV RX1 19 RX1 yX1_openAt wsX1_openAt) := goodIn_app (goodIn_of _ (by decide +kernel)) ggX1_putAt_X1_openAt
theorem dX1_putAt_0 : decode cX1_putAt 0 = .ok (.aload_n 0, 1) := by decide +kernel
theorem dX1_putAt_1 : decode cX1_putAt 1 = .ok (.iload_n 1, 1) := by decide +kernel
theorem dX1_putAt_2 : decode cX1_putAt 2 = .ok (.iconst 1, 1) := by decide +kernel
theorem dX1_putAt_3 : decode cX1_putAt 3 = .ok (.invokevirtual 19, 3) := by decide +kernel
theorem dX1_putAt_6 : decode cX1_putAt 6 = .ok (.aload_n 0, 1) := by decide +kernel
theorem dX1_putAt_7 : decode cX1_putAt 7 = .ok (.getfield 9, 3) := by decide +kernel
theorem dX1_putAt_10 : decode cX1_putAt 10 = .ok (.iload_n 1, 1) := by decide +kernel
theorem dX1_putAt_11 : decode cX1_putAt 11 = .ok (.iload_n 2, 1) := by decide +kernel
theorem dX1_putAt_12 : decode cX1_putAt 12 = .ok (.iastore, 1) := by decide +kernel
theorem dX1_putAt_13 : decode cX1_putAt 13 = .ok (.return_, 1) := by decide +kernel
set_option maxRecDepth 20000 in
theorem ggX1_putAllAt_X1_openAt : GoodIn wsX1_putAllAt wsX1_openAt := goodIn_r _ [7, 1, 2, 8, 9, 10, 11] (by decide +kernel) (by decide +kernel)
set_option maxRecDepth 20000 in
theorem gX1_putAllAt_X1_openAt : GoodIn wsX1_putAllAt (wsV RX1 19 RX1 yX1_openAt wsX1_openAt) := goodIn_app (goodIn_of _ (by decide +kernel)) ggX1_putAllAt_X1_openAt
theorem dX1_putAllAt_0 : decode cX1_putAllAt 0 = .ok (.aload_n 0, 1) := by decide +kernel
theorem dX1_putAllAt_1 : decode cX1_putAllAt 1 = .ok (.iload_n 1, 1) := by decide +kernel
theorem dX1_putAllAt_2 : decode cX1_putAllAt 2 = .ok (.aload_n 2, 1) := by decide +kernel
theorem dX1_putAllAt_3 : decode cX1_putAllAt 3 = .ok (.getfield 15, 3) := by decide +kernel
theorem dX1_putAllAt_6 : decode cX1_putAllAt 6 = .ok (.invokevirtual 19, 3) := by decide +kernel
theorem dX1_putAllAt_9 : decode cX1_putAllAt 9 = .ok (.iconst 0, 1) := by decide +kernel
theorem dX1_putAllAt_10 : decode cX1_putAllAt 10 = .ok (.istore_n 3, 1) := by decide +kernel
theorem dX1_putAllAt_11 : decode cX1_putAllAt 11 = .ok (.iload_n 3, 1) := by decide +kernel
theorem dX1_putAllAt_12 : decode cX1_putAllAt 12 = .ok (.aload_n 2, 1) := by decide +kernel
theorem dX1_putAllAt_13 : decode cX1_putAllAt 13 = .ok (.getfield 15, 3) := by decide +kernel
theorem dX1_putAllAt_16 : decode cX1_putAllAt 16 = .ok (.if_icmp .ge 23, 3) := by decide +kernel
theorem dX1_putAllAt_19 : decode cX1_putAllAt 19 = .ok (.aload_n 0, 1) := by decide +kernel
theorem dX1_putAllAt_20 : decode cX1_putAllAt 20 = .ok (.getfield 9, 3) := by decide +kernel
theorem dX1_putAllAt_23 : decode cX1_putAllAt 23 = .ok (.iload_n 1, 1) := by decide +kernel
theorem dX1_putAllAt_24 : decode cX1_putAllAt 24 = .ok (.iload_n 3, 1) := by decide +kernel
theorem dX1_putAllAt_25 : decode cX1_putAllAt 25 = .ok (.iadd, 1) := by decide +kernel
theorem dX1_putAllAt_26 : decode cX1_putAllAt 26 = .ok (.aload_n 2, 1) := by decide +kernel
theorem dX1_putAllAt_27 : decode cX1_putAllAt 27 = .ok (.getfield 9, 3) := by decide +kernel
theorem dX1_putAllAt_30 : decode cX1_putAllAt 30 = .ok (.iload_n 3, 1) := by decide +kernel
theorem dX1_putAllAt_31 : decode cX1_putAllAt 31 = .ok (.iaload, 1) := by decide +kernel
theorem dX1_putAllAt_32 : decode cX1_putAllAt 32 = .ok (.iastore, 1) := by decide +kernel
theorem dX1_putAllAt_33 : decode cX1_putAllAt 33 = .ok (.iinc 3 1, 3) := by decide +kernel
theorem dX1_putAllAt_36 : decode cX1_putAllAt 36 = .ok (.goto (-25), 3) := by decide +kernel
theorem dX1_putAllAt_39 : decode cX1_putAllAt 39 = .ok (.return_, 1) := by decide +kernel
set_option maxRecDepth 20000 in
theorem ggX1_takeAt_X1_keepFirst : GoodIn wsX1_takeAt wsX1_keepFirst := goodIn_r _ [7, 2, 8, 9, 10, 11] (by decide +kernel) (by decide +kernel)
set_option maxRecDepth 20000 in
theorem gX1_takeAt_X1_keepFirst : GoodIn wsX1_takeAt (wsV RX1 23 RX1 yX1_keepFirst wsX1_keepFirst) := goodIn_app (goodIn_of _ (by decide +kernel)) ggX1_takeAt_X1_keepFirst
theorem dX1_takeAt_0 : decode cX1_takeAt 0 = .ok (.aload_n 0, 1) := by decide +kernel
theorem dX1_takeAt_1 : decode cX1_takeAt 1 = .ok (.getfield 9, 3) := by decide +kernel
theorem dX1_takeAt_4 : decode cX1_takeAt 4 = .ok (.iload_n 1, 1) := by decide +kernel
theorem dX1_takeAt_5 : decode cX1_takeAt 5 = .ok (.iaload, 1) := by decide +kernel
theorem dX1_takeAt_6 : decode cX1_takeAt 6 = .ok (.istore_n 2, 1) := by decide +kernel
theorem dX1_takeAt_7 : decode cX1_takeAt 7 = .ok (.iload_n 1, 1) := by decide +kernel
theorem dX1_takeAt_8 : decode cX1_takeAt 8 = .ok (.iconst 1, 1) := by decide +kernel
theorem dX1_takeAt_9 : decode cX1_takeAt 9 = .ok (.iadd, 1) := by decide +kernel
theorem dX1_takeAt_10 : decode cX1_takeAt 10 = .ok (.istore_n 3, 1) := by decide +kernel
theorem dX1_takeAt_11 : decode cX1_takeAt 11 = .ok (.iload_n 3, 1) := by decide +kernel
theorem dX1_takeAt_12 : decode cX1_takeAt 12 = .ok (.aload_n 0, 1) := by decide +kernel
theorem dX1_takeAt_13 : decode cX1_takeAt 13 = .ok (.getfield 15, 3) := by decide +kernel
theorem dX1_takeAt_16 : decode cX1_takeAt 16 = .ok (.if_icmp .ge 23, 3) := by decide +kernel
theorem dX1_takeAt_19 : decode cX1_takeAt 19 = .ok (.aload_n 0, 1) := by decide +kernel
theorem dX1_takeAt_20 : decode cX1_takeAt 20 = .ok (.getfield 9, 3) := by decide +kernel
theorem dX1_takeAt_23 : decode cX1_takeAt 23 = .ok (.iload_n 3, 1) := by decide +kernel
theorem dX1_takeAt_24 : decode cX1_takeAt 24 = .ok (.iconst 1, 1) := by decide +kernel
theorem dX1_takeAt_25 : decode cX1_takeAt 25 = .ok (.isub, 1) := by decide +kernel
theorem dX1_takeAt_26 : decode cX1_takeAt 26 = .ok (.aload_n 0, 1) := by decide +kernel
theorem dX1_takeAt_27 : decode cX1_takeAt 27 = .ok (.getfield 9, 3) := by decide +kernel
theorem dX1_takeAt_30 : decode cX1_takeAt 30 = .ok (.iload_n 3, 1) := by decide +kernel
theorem dX1_takeAt_31 : decode cX1_takeAt 31 = .ok (.iaload, 1) := by decide +kernel
theorem dX1_takeAt_32 : decode cX1_takeAt 32 = .ok (.iastore, 1) := by decide +kernel
theorem dX1_takeAt_33 : decode cX1_takeAt 33 = .ok (.iinc 3 1, 3) := by decide +kernel
theorem dX1_takeAt_36 : decode cX1_takeAt 36 = .ok (.goto (-25), 3) := by decide +kernel
theorem dX1_takeAt_39 : decode cX1_takeAt 39 = .ok (.aload_n 0, 1) := by decide +kernel
theorem dX1_takeAt_40 : decode cX1_takeAt 40 = .ok (.aload_n 0, 1) := by decide +kernel
theorem dX1_takeAt_41 : decode cX1_takeAt 41 = .ok (.getfield 15, 3) := by decide +kernel
theorem dX1_takeAt_44 : decode cX1_takeAt 44 = .ok (.iconst 1, 1) := by decide +kernel
theorem dX1_takeAt_45 : decode cX1_takeAt 45 = .ok (.isub, 1) := by decide +kernel
theorem dX1_takeAt_46 : decode cX1_takeAt 46 = .ok (.invokevirtual 23, 3) := by decide +kernel
theorem dX1_takeAt_49 : decode cX1_takeAt 49 = .ok (.iload_n 2, 1) := by decide +kernel
theorem dX1_takeAt_50 : decode cX1_takeAt 50 = .ok (.ireturn, 1) := by decide +kernel
theorem dX1_placeOf_0 : decode cX1_placeOf 0 = .ok (.iconst (-1), 1) := by decide +kernel
theorem dX1_placeOf_1 : decode cX1_placeOf 1 = .ok (.istore_n 3, 1) := by decide +kernel
theorem dX1_placeOf_2 : decode cX1_placeOf 2 = .ok (.iconst 0, 1) := by decide +kernel
theorem dX1_placeOf_3 : decode cX1_placeOf 3 = .ok (.istore 4, 2) := by decide +kernel
theorem dX1_placeOf_5 : decode cX1_placeOf 5 = .ok (.iload 4, 2) := by decide +kernel
theorem dX1_placeOf_7 : decode cX1_placeOf 7 = .ok (.aload_n 0, 1) := by decide +kernel
theorem dX1_placeOf_8 : decode cX1_placeOf 8 = .ok (.getfield 15, 3) := by decide +kernel
theorem dX1_placeOf_11 : decode cX1_placeOf 11 = .ok (.if_icmp .ge 35, 3) := by decide +kernel
theorem dX1_placeOf_14 : decode cX1_placeOf 14 = .ok (.iload_n 2, 1) := by decide +kernel
theorem dX1_placeOf_15 : decode cX1_placeOf 15 = .ok (.ifCond .ne 8, 3) := by decide +kernel
theorem dX1_placeOf_18 : decode cX1_placeOf 18 = .ok (.iload_n 3, 1) := by decide +kernel
theorem dX1_placeOf_19 : decode cX1_placeOf 19 = .ok (.iconst (-1), 1) := by decide +kernel
theorem dX1_placeOf_20 : decode cX1_placeOf 20 = .ok (.if_icmp .ne 26, 3) := by decide +kernel
theorem dX1_placeOf_23 : decode cX1_placeOf 23 = .ok (.aload_n 0, 1) := by decide +kernel
theorem dX1_placeOf_24 : decode cX1_placeOf 24 = .ok (.getfield 9, 3) := by decide +kernel
theorem dX1_placeOf_27 : decode cX1_placeOf 27 = .ok (.iload 4, 2) := by decide +kernel
theorem dX1_placeOf_29 : decode cX1_placeOf 29 = .ok (.iaload, 1) := by decide +kernel
theorem dX1_placeOf_30 : decode cX1_placeOf 30 = .ok (.bipush 10, 2) := by decide +kernel
theorem dX1_placeOf_32 : decode cX1_placeOf 32 = .ok (.irem, 1) := by decide +kernel
theorem dX1_placeOf_33 : decode cX1_placeOf 33 = .ok (.iload_n 1, 1) := by decide +kernel
theorem dX1_placeOf_34 : decode cX1_placeOf 34 = .ok (.if_icmp .ne 6, 3) := by decide +kernel
theorem dX1_placeOf_37 : decode cX1_placeOf 37 = .ok (.iload 4, 2) := by decide +kernel
theorem dX1_placeOf_39 : decode cX1_placeOf 39 = .ok (.istore_n 3, 1) := by decide +kernel
theorem dX1_placeOf_40 : decode cX1_placeOf 40 = .ok (.iinc 4 1, 3) := by decide +kernel
theorem dX1_placeOf_43 : decode cX1_placeOf 43 = .ok (.goto (-38), 3) := by decide +kernel
theorem dX1_placeOf_46 : decode cX1_placeOf 46 = .ok (.iload_n 3, 1) := by decide +kernel
theorem dX1_placeOf_47 : decode cX1_placeOf 47 = .ok (.ireturn, 1) := by decide +kernel
theorem dX1_keepFirst_0 : decode cX1_keepFirst 0 = .ok (.iload_n 1, 1) := by decide +kernel
theorem dX1_keepFirst_1 : decode cX1_keepFirst 1 = .ok (.aload_n 0, 1) := by decide +kernel
theorem dX1_keepFirst_2 : decode cX1_keepFirst 2 = .ok (.getfield 15, 3) := by decide +kernel
theorem dX1_keepFirst_5 : decode cX1_keepFirst 5 = .ok (.if_icmp .eq 18, 3) := by decide +kernel
theorem dX1_keepFirst_8 : decode cX1_keepFirst 8 = .ok (.aload_n 0, 1) := by decide +kernel
theorem dX1_keepFirst_9 : decode cX1_keepFirst 9 = .ok (.iload_n 1, 1) := by decide +kernel
theorem dX1_keepFirst_10 : decode cX1_keepFirst 10 = .ok (.putfield 15, 3) := by decide +kernel
theorem dX1_keepFirst_13 : decode cX1_keepFirst 13 = .ok (.aload_n 0, 1) := by decide +kernel
theorem dX1_keepFirst_14 : decode cX1_keepFirst 14 = .ok (.dup, 1) := by decide +kernel
theorem dX1_keepFirst_15 : decode cX1_keepFirst 15 = .ok (.getfield 27, 3) := by decide +kernel
theorem dX1_keepFirst_18 : decode cX1_keepFirst 18 = .ok (.iconst 1, 1) := by decide +kernel
theorem dX1_keepFirst_19 : decode cX1_keepFirst 19 = .ok (.iadd, 1) := by decide +kernel
theorem dX1_keepFirst_20 : decode cX1_keepFirst 20 = .ok (.putfield 27, 3) := by decide +kernel
theorem dX1_keepFirst_23 : decode cX1_keepFirst 23 = .ok (.return_, 1) := by decide +kernel
theorem dX1_becomeLike_0 : decode cX1_becomeLike 0 = .ok (.iconst 0, 1) := by decide +kernel
theorem dX1_becomeLike_1 : decode cX1_becomeLike 1 = .ok (.istore_n 2, 1) := by decide +kernel
theorem dX1_becomeLike_2 : decode cX1_becomeLike 2 = .ok (.iload_n 2, 1) := by decide +kernel
theorem dX1_becomeLike_3 : decode cX1_becomeLike 3 = .ok (.aload_n 1, 1) := by decide +kernel
theorem dX1_becomeLike_4 : decode cX1_becomeLike 4 = .ok (.getfield 15, 3) := by decide +kernel
theorem dX1_becomeLike_7 : decode cX1_becomeLike 7 = .ok (.if_icmp .ge 21, 3) := by decide +kernel
theorem dX1_becomeLike_10 : decode cX1_becomeLike 10 = .ok (.aload_n 0, 1) := by decide +kernel
theorem dX1_becomeLike_11 : decode cX1_becomeLike 11 = .ok (.getfield 9, 3) := by decide +kernel
theorem dX1_becomeLike_14 : decode cX1_becomeLike 14 = .ok (.iload_n 2, 1) := by decide +kernel
theorem dX1_becomeLike_15 : decode cX1_becomeLike 15 = .ok (.aload_n 1, 1) := by decide +kernel
theorem dX1_becomeLike_16 : decode cX1_becomeLike 16 = .ok (.getfield 9, 3) := by decide +kernel
theorem dX1_becomeLike_19 : decode cX1_becomeLike 19 = .ok (.iload_n 2, 1) := by decide +kernel
theorem dX1_becomeLike_20 : decode cX1_becomeLike 20 = .ok (.iaload, 1) := by decide +kernel
theorem dX1_becomeLike_21 : decode cX1_becomeLike 21 = .ok (.iastore, 1) := by decide +kernel
theorem dX1_becomeLike_22 : decode cX1_becomeLike 22 = .ok (.iinc 2 1, 3) := by decide +kernel
theorem dX1_becomeLike_25 : decode cX1_becomeLike 25 = .ok (.goto (-23), 3) := by decide +kernel
theorem dX1_becomeLike_28 : decode cX1_becomeLike 28 = .ok (.aload_n 0, 1) := by decide +kernel
theorem dX1_becomeLike_29 : decode cX1_becomeLike 29 = .ok (.aload_n 1, 1) := by decide +kernel
theorem dX1_becomeLike_30 : decode cX1_becomeLike 30 = .ok (.getfield 15, 3) := by decide +kernel
theorem dX1_becomeLike_33 : decode cX1_becomeLike 33 = .ok (.putfield 15, 3) := by decide +kernel
theorem dX1_becomeLike_36 : decode cX1_becomeLike 36 = .ok (.return_, 1) := by decide +kernel
set_option maxRecDepth 20000 in
theorem ggX1_turnRound_X1_layAt : GoodIn wsX1_turnRound wsX1_layAt := goodIn_r _ [7, 2, 8, 9, 10] (by decide +kernel) (by decide +kernel)
set_option maxRecDepth 20000 in
theorem gX1_turnRound_X1_layAt : GoodIn wsX1_turnRound (wsV RX1 30 RX1 yX1_layAt wsX1_layAt) := goodIn_app (goodIn_of _ (by decide +kernel)) ggX1_turnRound_X1_layAt
theorem dX1_turnRound_0 : decode cX1_turnRound 0 = .ok (.iconst 0, 1) := by decide +kernel
theorem dX1_turnRound_1 : decode cX1_turnRound 1 = .ok (.istore_n 1, 1) := by decide +kernel
theorem dX1_turnRound_2 : decode cX1_turnRound 2 = .ok (.iload_n 1, 1) := by decide +kernel
theorem dX1_turnRound_3 : decode cX1_turnRound 3 = .ok (.aload_n 0, 1) := by decide +kernel
theorem dX1_turnRound_4 : decode cX1_turnRound 4 = .ok (.getfield 15, 3) := by decide +kernel
theorem dX1_turnRound_7 : decode cX1_turnRound 7 = .ok (.iconst 2, 1) := by decide +kernel
theorem dX1_turnRound_8 : decode cX1_turnRound 8 = .ok (.idiv, 1) := by decide +kernel
theorem dX1_turnRound_9 : decode cX1_turnRound 9 = .ok (.if_icmp .ge 33, 3) := by decide +kernel
theorem dX1_turnRound_12 : decode cX1_turnRound 12 = .ok (.aload_n 0, 1) := by decide +kernel
theorem dX1_turnRound_13 : decode cX1_turnRound 13 = .ok (.getfield 9, 3) := by decide +kernel
theorem dX1_turnRound_16 : decode cX1_turnRound 16 = .ok (.iload_n 1, 1) := by decide +kernel
theorem dX1_turnRound_17 : decode cX1_turnRound 17 = .ok (.aload_n 0, 1) := by decide +kernel
theorem dX1_turnRound_18 : decode cX1_turnRound 18 = .ok (.aload_n 0, 1) := by decide +kernel
theorem dX1_turnRound_19 : decode cX1_turnRound 19 = .ok (.getfield 15, 3) := by decide +kernel
theorem dX1_turnRound_22 : decode cX1_turnRound 22 = .ok (.iconst 1, 1) := by decide +kernel
theorem dX1_turnRound_23 : decode cX1_turnRound 23 = .ok (.isub, 1) := by decide +kernel
theorem dX1_turnRound_24 : decode cX1_turnRound 24 = .ok (.iload_n 1, 1) := by decide +kernel
theorem dX1_turnRound_25 : decode cX1_turnRound 25 = .ok (.isub, 1) := by decide +kernel
theorem dX1_turnRound_26 : decode cX1_turnRound 26 = .ok (.aload_n 0, 1) := by decide +kernel
theorem dX1_turnRound_27 : decode cX1_turnRound 27 = .ok (.getfield 9, 3) := by decide +kernel
theorem dX1_turnRound_30 : decode cX1_turnRound 30 = .ok (.iload_n 1, 1) := by decide +kernel
theorem dX1_turnRound_31 : decode cX1_turnRound 31 = .ok (.iaload, 1) := by decide +kernel
theorem dX1_turnRound_32 : decode cX1_turnRound 32 = .ok (.invokevirtual 30, 3) := by decide +kernel
theorem dX1_turnRound_35 : decode cX1_turnRound 35 = .ok (.iastore, 1) := by decide +kernel
theorem dX1_turnRound_36 : decode cX1_turnRound 36 = .ok (.iinc 1 1, 3) := by decide +kernel
theorem dX1_turnRound_39 : decode cX1_turnRound 39 = .ok (.goto (-37), 3) := by decide +kernel
theorem dX1_turnRound_42 : decode cX1_turnRound 42 = .ok (.return_, 1) := by decide +kernel
set_option maxRecDepth 20000 in
theorem ggX1_weaveIn_X1_openAt : GoodIn wsX1_weaveIn wsX1_openAt := goodIn_r _ [11, 1, 6, 12, 13, 14, 15] (by decide +kernel) (by decide +kernel)
set_option maxRecDepth 20000 in
theorem gX1_weaveIn_X1_openAt : GoodIn wsX1_weaveIn (wsV RX1 19 RX1 yX1_openAt wsX1_openAt) := goodIn_app (goodIn_of _ (by decide +kernel)) ggX1_weaveIn_X1_openAt
theorem dX1_weaveIn_0 : decode cX1_weaveIn 0 = .ok (.aload_n 0, 1) := by decide +kernel
theorem dX1_weaveIn_1 : decode cX1_weaveIn 1 = .ok (.getfield 15, 3) := by decide +kernel
theorem dX1_weaveIn_4 : decode cX1_weaveIn 4 = .ok (.aload_n 1, 1) := by decide +kernel
theorem dX1_weaveIn_5 : decode cX1_weaveIn 5 = .ok (.getfield 15, 3) := by decide +kernel
theorem dX1_weaveIn_8 : decode cX1_weaveIn 8 = .ok (.invokestatic 34, 3) := by decide +kernel
theorem dX1_weaveIn_11 : decode cX1_weaveIn 11 = .ok (.istore_n 2, 1) := by decide +kernel
theorem dX1_weaveIn_12 : decode cX1_weaveIn 12 = .ok (.aload_n 0, 1) := by decide +kernel
theorem dX1_weaveIn_13 : decode cX1_weaveIn 13 = .ok (.iload_n 2, 1) := by decide +kernel
theorem dX1_weaveIn_14 : decode cX1_weaveIn 14 = .ok (.aload_n 1, 1) := by decide +kernel
theorem dX1_weaveIn_15 : decode cX1_weaveIn 15 = .ok (.getfield 15, 3) := by decide +kernel
theorem dX1_weaveIn_18 : decode cX1_weaveIn 18 = .ok (.invokevirtual 19, 3) := by decide +kernel
theorem dX1_weaveIn_21 : decode cX1_weaveIn 21 = .ok (.iload_n 2, 1) := by decide +kernel
theorem dX1_weaveIn_22 : decode cX1_weaveIn 22 = .ok (.istore_n 3, 1) := by decide +kernel
theorem dX1_weaveIn_23 : decode cX1_weaveIn 23 = .ok (.iload_n 3, 1) := by decide +kernel
theorem dX1_weaveIn_24 : decode cX1_weaveIn 24 = .ok (.aload_n 1, 1) := by decide +kernel
theorem dX1_weaveIn_25 : decode cX1_weaveIn 25 = .ok (.getfield 15, 3) := by decide +kernel
theorem dX1_weaveIn_28 : decode cX1_weaveIn 28 = .ok (.if_icmp .ge 23, 3) := by decide +kernel
theorem dX1_weaveIn_31 : decode cX1_weaveIn 31 = .ok (.aload_n 0, 1) := by decide +kernel
theorem dX1_weaveIn_32 : decode cX1_weaveIn 32 = .ok (.getfield 9, 3) := by decide +kernel
theorem dX1_weaveIn_35 : decode cX1_weaveIn 35 = .ok (.iload_n 2, 1) := by decide +kernel
theorem dX1_weaveIn_36 : decode cX1_weaveIn 36 = .ok (.iload_n 3, 1) := by decide +kernel
theorem dX1_weaveIn_37 : decode cX1_weaveIn 37 = .ok (.iadd, 1) := by decide +kernel
theorem dX1_weaveIn_38 : decode cX1_weaveIn 38 = .ok (.aload_n 1, 1) := by decide +kernel
theorem dX1_weaveIn_39 : decode cX1_weaveIn 39 = .ok (.getfield 9, 3) := by decide +kernel
theorem dX1_weaveIn_42 : decode cX1_weaveIn 42 = .ok (.iload_n 3, 1) := by decide +kernel
theorem dX1_weaveIn_43 : decode cX1_weaveIn 43 = .ok (.iaload, 1) := by decide +kernel
theorem dX1_weaveIn_44 : decode cX1_weaveIn 44 = .ok (.iastore, 1) := by decide +kernel
theorem dX1_weaveIn_45 : decode cX1_weaveIn 45 = .ok (.iinc 3 1, 3) := by decide +kernel
theorem dX1_weaveIn_48 : decode cX1_weaveIn 48 = .ok (.goto (-25), 3) := by decide +kernel
theorem dX1_weaveIn_51 : decode cX1_weaveIn 51 = .ok (.iload_n 2, 1) := by decide +kernel
theorem dX1_weaveIn_52 : decode cX1_weaveIn 52 = .ok (.iconst 1, 1) := by decide +kernel
theorem dX1_weaveIn_53 : decode cX1_weaveIn 53 = .ok (.isub, 1) := by decide +kernel
theorem dX1_weaveIn_54 : decode cX1_weaveIn 54 = .ok (.istore_n 3, 1) := by decide +kernel
theorem dX1_weaveIn_55 : decode cX1_weaveIn 55 = .ok (.iload_n 3, 1) := by decide +kernel
theorem dX1_weaveIn_56 : decode cX1_weaveIn 56 = .ok (.ifCond .lt 39, 3) := by decide +kernel
theorem dX1_weaveIn_59 : decode cX1_weaveIn 59 = .ok (.aload_n 0, 1) := by decide +kernel
theorem dX1_weaveIn_60 : decode cX1_weaveIn 60 = .ok (.getfield 9, 3) := by decide +kernel
theorem dX1_weaveIn_63 : decode cX1_weaveIn 63 = .ok (.iconst 2, 1) := by decide +kernel
theorem dX1_weaveIn_64 : decode cX1_weaveIn 64 = .ok (.iload_n 3, 1) := by decide +kernel
theorem dX1_weaveIn_65 : decode cX1_weaveIn 65 = .ok (.imul, 1) := by decide +kernel
theorem dX1_weaveIn_66 : decode cX1_weaveIn 66 = .ok (.iconst 1, 1) := by decide +kernel
theorem dX1_weaveIn_67 : decode cX1_weaveIn 67 = .ok (.iadd, 1) := by decide +kernel
theorem dX1_weaveIn_68 : decode cX1_weaveIn 68 = .ok (.aload_n 1, 1) := by decide +kernel
theorem dX1_weaveIn_69 : decode cX1_weaveIn 69 = .ok (.getfield 9, 3) := by decide +kernel
theorem dX1_weaveIn_72 : decode cX1_weaveIn 72 = .ok (.iload_n 3, 1) := by decide +kernel
theorem dX1_weaveIn_73 : decode cX1_weaveIn 73 = .ok (.iaload, 1) := by decide +kernel
theorem dX1_weaveIn_74 : decode cX1_weaveIn 74 = .ok (.iastore, 1) := by decide +kernel
theorem dX1_weaveIn_75 : decode cX1_weaveIn 75 = .ok (.aload_n 0, 1) := by decide +kernel
theorem dX1_weaveIn_76 : decode cX1_weaveIn 76 = .ok (.getfield 9, 3) := by decide +kernel
theorem dX1_weaveIn_79 : decode cX1_weaveIn 79 = .ok (.iconst 2, 1) := by decide +kernel
theorem dX1_weaveIn_80 : decode cX1_weaveIn 80 = .ok (.iload_n 3, 1) := by decide +kernel
theorem dX1_weaveIn_81 : decode cX1_weaveIn 81 = .ok (.imul, 1) := by decide +kernel
theorem dX1_weaveIn_82 : decode cX1_weaveIn 82 = .ok (.aload_n 0, 1) := by decide +kernel
theorem dX1_weaveIn_83 : decode cX1_weaveIn 83 = .ok (.getfield 9, 3) := by decide +kernel
theorem dX1_weaveIn_86 : decode cX1_weaveIn 86 = .ok (.iload_n 3, 1) := by decide +kernel
theorem dX1_weaveIn_87 : decode cX1_weaveIn 87 = .ok (.iaload, 1) := by decide +kernel
theorem dX1_weaveIn_88 : decode cX1_weaveIn 88 = .ok (.iastore, 1) := by decide +kernel
theorem dX1_weaveIn_89 : decode cX1_weaveIn 89 = .ok (.iinc 3 (-1), 3) := by decide +kernel
theorem dX1_weaveIn_92 : decode cX1_weaveIn 92 = .ok (.goto (-37), 3) := by decide +kernel
theorem dX1_weaveIn_95 : decode cX1_weaveIn 95 = .ok (.return_, 1) := by decide +kernel
set_option maxRecDepth 20000 in
theorem ggX1_takeRepeats_X1_keepFirst : GoodIn wsX1_takeRepeats wsX1_keepFirst := goodIn_r _ [7, 1, 8, 9, 10, 11] (by decide +kernel) (by decide +kernel)
set_option maxRecDepth 20000 in
theorem gX1_takeRepeats_X1_keepFirst : GoodIn wsX1_takeRepeats (wsV RX1 23 RX1 yX1_keepFirst wsX1_keepFirst) := goodIn_app (goodIn_of _ (by decide +kernel)) ggX1_takeRepeats_X1_keepFirst
theorem dX1_takeRepeats_0 : decode cX1_takeRepeats 0 = .ok (.aload_n 0, 1) := by decide +kernel
theorem dX1_takeRepeats_1 : decode cX1_takeRepeats 1 = .ok (.getfield 15, 3) := by decide +kernel
theorem dX1_takeRepeats_4 : decode cX1_takeRepeats 4 = .ok (.istore_n 1, 1) := by decide +kernel
theorem dX1_takeRepeats_5 : decode cX1_takeRepeats 5 = .ok (.iconst 0, 1) := by decide +kernel
theorem dX1_takeRepeats_6 : decode cX1_takeRepeats 6 = .ok (.istore_n 2, 1) := by decide +kernel
theorem dX1_takeRepeats_7 : decode cX1_takeRepeats 7 = .ok (.iconst 0, 1) := by decide +kernel
theorem dX1_takeRepeats_8 : decode cX1_takeRepeats 8 = .ok (.istore_n 3, 1) := by decide +kernel
theorem dX1_takeRepeats_9 : decode cX1_takeRepeats 9 = .ok (.iconst 0, 1) := by decide +kernel
theorem dX1_takeRepeats_10 : decode cX1_takeRepeats 10 = .ok (.istore 4, 2) := by decide +kernel
theorem dX1_takeRepeats_12 : decode cX1_takeRepeats 12 = .ok (.iload 4, 2) := by decide +kernel
theorem dX1_takeRepeats_14 : decode cX1_takeRepeats 14 = .ok (.iload_n 1, 1) := by decide +kernel
theorem dX1_takeRepeats_15 : decode cX1_takeRepeats 15 = .ok (.if_icmp .ge 51, 3) := by decide +kernel
theorem dX1_takeRepeats_18 : decode cX1_takeRepeats 18 = .ok (.iconst 1, 1) := by decide +kernel
theorem dX1_takeRepeats_19 : decode cX1_takeRepeats 19 = .ok (.aload_n 0, 1) := by decide +kernel
theorem dX1_takeRepeats_20 : decode cX1_takeRepeats 20 = .ok (.getfield 9, 3) := by decide +kernel
theorem dX1_takeRepeats_23 : decode cX1_takeRepeats 23 = .ok (.iload 4, 2) := by decide +kernel
theorem dX1_takeRepeats_25 : decode cX1_takeRepeats 25 = .ok (.iaload, 1) := by decide +kernel
theorem dX1_takeRepeats_26 : decode cX1_takeRepeats 26 = .ok (.bipush 10, 2) := by decide +kernel
theorem dX1_takeRepeats_28 : decode cX1_takeRepeats 28 = .ok (.irem, 1) := by decide +kernel
theorem dX1_takeRepeats_29 : decode cX1_takeRepeats 29 = .ok (.ishl, 1) := by decide +kernel
theorem dX1_takeRepeats_30 : decode cX1_takeRepeats 30 = .ok (.istore 5, 2) := by decide +kernel
theorem dX1_takeRepeats_32 : decode cX1_takeRepeats 32 = .ok (.iload_n 3, 1) := by decide +kernel
theorem dX1_takeRepeats_33 : decode cX1_takeRepeats 33 = .ok (.iload 5, 2) := by decide +kernel
theorem dX1_takeRepeats_35 : decode cX1_takeRepeats 35 = .ok (.iand, 1) := by decide +kernel
theorem dX1_takeRepeats_36 : decode cX1_takeRepeats 36 = .ok (.ifCond .ne 24, 3) := by decide +kernel
theorem dX1_takeRepeats_39 : decode cX1_takeRepeats 39 = .ok (.iload_n 3, 1) := by decide +kernel
theorem dX1_takeRepeats_40 : decode cX1_takeRepeats 40 = .ok (.iload 5, 2) := by decide +kernel
theorem dX1_takeRepeats_42 : decode cX1_takeRepeats 42 = .ok (.ior, 1) := by decide +kernel
theorem dX1_takeRepeats_43 : decode cX1_takeRepeats 43 = .ok (.istore_n 3, 1) := by decide +kernel
theorem dX1_takeRepeats_44 : decode cX1_takeRepeats 44 = .ok (.aload_n 0, 1) := by decide +kernel
theorem dX1_takeRepeats_45 : decode cX1_takeRepeats 45 = .ok (.getfield 9, 3) := by decide +kernel
theorem dX1_takeRepeats_48 : decode cX1_takeRepeats 48 = .ok (.iload_n 2, 1) := by decide +kernel
theorem dX1_takeRepeats_49 : decode cX1_takeRepeats 49 = .ok (.aload_n 0, 1) := by decide +kernel
theorem dX1_takeRepeats_50 : decode cX1_takeRepeats 50 = .ok (.getfield 9, 3) := by decide +kernel
theorem dX1_takeRepeats_53 : decode cX1_takeRepeats 53 = .ok (.iload 4, 2) := by decide +kernel
theorem dX1_takeRepeats_55 : decode cX1_takeRepeats 55 = .ok (.iaload, 1) := by decide +kernel
theorem dX1_takeRepeats_56 : decode cX1_takeRepeats 56 = .ok (.iastore, 1) := by decide +kernel
theorem dX1_takeRepeats_57 : decode cX1_takeRepeats 57 = .ok (.iinc 2 1, 3) := by decide +kernel
theorem dX1_takeRepeats_60 : decode cX1_takeRepeats 60 = .ok (.iinc 4 1, 3) := by decide +kernel
theorem dX1_takeRepeats_63 : decode cX1_takeRepeats 63 = .ok (.goto (-51), 3) := by decide +kernel
theorem dX1_takeRepeats_66 : decode cX1_takeRepeats 66 = .ok (.aload_n 0, 1) := by decide +kernel
theorem dX1_takeRepeats_67 : decode cX1_takeRepeats 67 = .ok (.iload_n 2, 1) := by decide +kernel
theorem dX1_takeRepeats_68 : decode cX1_takeRepeats 68 = .ok (.invokevirtual 23, 3) := by decide +kernel
theorem dX1_takeRepeats_71 : decode cX1_takeRepeats 71 = .ok (.iload_n 1, 1) := by decide +kernel
theorem dX1_takeRepeats_72 : decode cX1_takeRepeats 72 = .ok (.iload_n 2, 1) := by decide +kernel
theorem dX1_takeRepeats_73 : decode cX1_takeRepeats 73 = .ok (.isub, 1) := by decide +kernel
theorem dX1_takeRepeats_74 : decode cX1_takeRepeats 74 = .ok (.ireturn, 1) := by decide +kernel
theorem dX1_number_0 : decode cX1_number 0 = .ok (.bipush 7, 2) := by decide +kernel
theorem dX1_number_2 : decode cX1_number 2 = .ok (.istore_n 1, 1) := by decide +kernel
theorem dX1_number_3 : decode cX1_number 3 = .ok (.iconst 0, 1) := by decide +kernel
theorem dX1_number_4 : decode cX1_number 4 = .ok (.istore_n 2, 1) := by decide +kernel
theorem dX1_number_5 : decode cX1_number 5 = .ok (.iload_n 2, 1) := by decide +kernel
theorem dX1_number_6 : decode cX1_number 6 = .ok (.aload_n 0, 1) := by decide +kernel
theorem dX1_number_7 : decode cX1_number 7 = .ok (.getfield 15, 3) := by decide +kernel
theorem dX1_number_10 : decode cX1_number 10 = .ok (.if_icmp .ge 24, 3) := by decide +kernel
theorem dX1_number_13 : decode cX1_number 13 = .ok (.bipush 31, 2) := by decide +kernel
theorem dX1_number_15 : decode cX1_number 15 = .ok (.iload_n 1, 1) := by decide +kernel
theorem dX1_number_16 : decode cX1_number 16 = .ok (.imul, 1) := by decide +kernel
theorem dX1_number_17 : decode cX1_number 17 = .ok (.aload_n 0, 1) := by decide +kernel
theorem dX1_number_18 : decode cX1_number 18 = .ok (.getfield 9, 3) := by decide +kernel
theorem dX1_number_21 : decode cX1_number 21 = .ok (.iload_n 2, 1) := by decide +kernel
theorem dX1_number_22 : decode cX1_number 22 = .ok (.iaload, 1) := by decide +kernel
theorem dX1_number_23 : decode cX1_number 23 = .ok (.iadd, 1) := by decide +kernel
theorem dX1_number_24 : decode cX1_number 24 = .ok (.ldc 39, 2) := by decide +kernel
theorem dX1_number_26 : decode cX1_number 26 = .ok (.irem, 1) := by decide +kernel
theorem dX1_number_27 : decode cX1_number 27 = .ok (.istore_n 1, 1) := by decide +kernel
theorem dX1_number_28 : decode cX1_number 28 = .ok (.iinc 2 1, 3) := by decide +kernel
theorem dX1_number_31 : decode cX1_number 31 = .ok (.goto (-26), 3) := by decide +kernel
theorem dX1_number_34 : decode cX1_number 34 = .ok (.iload_n 1, 1) := by decide +kernel
theorem dX1_number_35 : decode cX1_number 35 = .ok (.ireturn, 1) := by decide +kernel
theorem dX1_openAt_0 : decode cX1_openAt 0 = .ok (.aload_n 0, 1) := by decide +kernel
theorem dX1_openAt_1 : decode cX1_openAt 1 = .ok (.getfield 15, 3) := by decide +kernel
theorem dX1_openAt_4 : decode cX1_openAt 4 = .ok (.iconst 1, 1) := by decide +kernel
theorem dX1_openAt_5 : decode cX1_openAt 5 = .ok (.isub, 1) := by decide +kernel
theorem dX1_openAt_6 : decode cX1_openAt 6 = .ok (.istore_n 3, 1) := by decide +kernel
theorem dX1_openAt_7 : decode cX1_openAt 7 = .ok (.iload_n 3, 1) := by decide +kernel
theorem dX1_openAt_8 : decode cX1_openAt 8 = .ok (.iload_n 1, 1) := by decide +kernel
theorem dX1_openAt_9 : decode cX1_openAt 9 = .ok (.if_icmp .lt 23, 3) := by decide +kernel
theorem dX1_openAt_12 : decode cX1_openAt 12 = .ok (.aload_n 0, 1) := by decide +kernel
theorem dX1_openAt_13 : decode cX1_openAt 13 = .ok (.getfield 9, 3) := by decide +kernel
theorem dX1_openAt_16 : decode cX1_openAt 16 = .ok (.iload_n 3, 1) := by decide +kernel
theorem dX1_openAt_17 : decode cX1_openAt 17 = .ok (.iload_n 2, 1) := by decide +kernel
theorem dX1_openAt_18 : decode cX1_openAt 18 = .ok (.iadd, 1) := by decide +kernel
theorem dX1_openAt_19 : decode cX1_openAt 19 = .ok (.aload_n 0, 1) := by decide +kernel
theorem dX1_openAt_20 : decode cX1_openAt 20 = .ok (.getfield 9, 3) := by decide +kernel
theorem dX1_openAt_23 : decode cX1_openAt 23 = .ok (.iload_n 3, 1) := by decide +kernel
theorem dX1_openAt_24 : decode cX1_openAt 24 = .ok (.iaload, 1) := by decide +kernel
theorem dX1_openAt_25 : decode cX1_openAt 25 = .ok (.iastore, 1) := by decide +kernel
theorem dX1_openAt_26 : decode cX1_openAt 26 = .ok (.iinc 3 (-1), 3) := by decide +kernel
theorem dX1_openAt_29 : decode cX1_openAt 29 = .ok (.goto (-22), 3) := by decide +kernel
theorem dX1_openAt_32 : decode cX1_openAt 32 = .ok (.aload_n 0, 1) := by decide +kernel
theorem dX1_openAt_33 : decode cX1_openAt 33 = .ok (.dup, 1) := by decide +kernel
theorem dX1_openAt_34 : decode cX1_openAt 34 = .ok (.getfield 15, 3) := by decide +kernel
theorem dX1_openAt_37 : decode cX1_openAt 37 = .ok (.iload_n 2, 1) := by decide +kernel
theorem dX1_openAt_38 : decode cX1_openAt 38 = .ok (.iadd, 1) := by decide +kernel
theorem dX1_openAt_39 : decode cX1_openAt 39 = .ok (.putfield 15, 3) := by decide +kernel
theorem dX1_openAt_42 : decode cX1_openAt 42 = .ok (.aload_n 0, 1) := by decide +kernel
theorem dX1_openAt_43 : decode cX1_openAt 43 = .ok (.dup, 1) := by decide +kernel
theorem dX1_openAt_44 : decode cX1_openAt 44 = .ok (.getfield 27, 3) := by decide +kernel
theorem dX1_openAt_47 : decode cX1_openAt 47 = .ok (.iconst 1, 1) := by decide +kernel
theorem dX1_openAt_48 : decode cX1_openAt 48 = .ok (.iadd, 1) := by decide +kernel
theorem dX1_openAt_49 : decode cX1_openAt 49 = .ok (.putfield 27, 3) := by decide +kernel
theorem dX1_openAt_52 : decode cX1_openAt 52 = .ok (.return_, 1) := by decide +kernel
theorem dJ9_min_7cf53_0 : decode cJ9_min_7cf53 0 = .ok (.iload_n 0, 1) := by decide +kernel
theorem dJ9_min_7cf53_1 : decode cJ9_min_7cf53 1 = .ok (.iload_n 1, 1) := by decide +kernel
theorem dJ9_min_7cf53_2 : decode cJ9_min_7cf53 2 = .ok (.if_icmp .gt 7, 3) := by decide +kernel
theorem dJ9_min_7cf53_5 : decode cJ9_min_7cf53 5 = .ok (.iload_n 0, 1) := by decide +kernel
theorem dJ9_min_7cf53_6 : decode cJ9_min_7cf53 6 = .ok (.goto 4, 3) := by decide +kernel
theorem dJ9_min_7cf53_9 : decode cJ9_min_7cf53 9 = .ok (.iload_n 1, 1) := by decide +kernel
theorem dJ9_min_7cf53_10 : decode cJ9_min_7cf53 10 = .ok (.ireturn, 1) := by decide +kernel
