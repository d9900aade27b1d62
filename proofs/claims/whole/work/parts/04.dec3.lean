theorem dX3_init_0 : decode cX3_init 0 = .ok (.aload_n 0, 1) := by decide +kernel
theorem dX3_init_1 : decode cX3_init 1 = .ok (.invokespecial 1, 3) := by decide +kernel
theorem dX3_init_4 : decode cX3_init 4 = .ok (.aload_n 0, 1) := by decide +kernel
theorem dX3_init_5 : decode cX3_init 5 = .ok (.sipush 192, 3) := by decide +kernel
theorem dX3_init_8 : decode cX3_init 8 = .ok (.newarray .int, 2) := by decide +kernel
theorem dX3_init_10 : decode cX3_init 10 = .ok (.putfield 7, 3) := by decide +kernel
theorem dX3_init_13 : decode cX3_init 13 = .ok (.aload_n 0, 1) := by decide +kernel
theorem dX3_init_14 : decode cX3_init 14 = .ok (.iconst 3, 1) := by decide +kernel
theorem dX3_init_15 : decode cX3_init 15 = .ok (.newarray .int, 2) := by decide +kernel
theorem dX3_init_17 : decode cX3_init 17 = .ok (.putfield 13, 3) := by decide +kernel
theorem dX3_init_20 : decode cX3_init 20 = .ok (.aload_n 0, 1) := by decide +kernel
theorem dX3_init_21 : decode cX3_init 21 = .ok (.iconst 4, 1) := by decide +kernel
theorem dX3_init_22 : decode cX3_init 22 = .ok (.newarray .int, 2) := by decide +kernel
theorem dX3_init_24 : decode cX3_init 24 = .ok (.putfield 16, 3) := by decide +kernel
theorem dX3_init_27 : decode cX3_init 27 = .ok (.aload_n 0, 1) := by decide +kernel
theorem dX3_init_28 : decode cX3_init 28 = .ok (.iconst 4, 1) := by decide +kernel
theorem dX3_init_29 : decode cX3_init 29 = .ok (.newarray .int, 2) := by decide +kernel
theorem dX3_init_31 : decode cX3_init 31 = .ok (.putfield 19, 3) := by decide +kernel
theorem dX3_init_34 : decode cX3_init 34 = .ok (.aload_n 0, 1) := by decide +kernel
theorem dX3_init_35 : decode cX3_init 35 = .ok (.iconst 4, 1) := by decide +kernel
theorem dX3_init_36 : decode cX3_init 36 = .ok (.newarray .int, 2) := by decide +kernel
theorem dX3_init_38 : decode cX3_init 38 = .ok (.putfield 22, 3) := by decide +kernel
theorem dX3_init_41 : decode cX3_init 41 = .ok (.aload_n 0, 1) := by decide +kernel
theorem dX3_init_42 : decode cX3_init 42 = .ok (.iconst 4, 1) := by decide +kernel
theorem dX3_init_43 : decode cX3_init 43 = .ok (.newarray .int, 2) := by decide +kernel
theorem dX3_init_45 : decode cX3_init 45 = .ok (.putfield 25, 3) := by decide +kernel
theorem dX3_init_48 : decode cX3_init 48 = .ok (.aload_n 0, 1) := by decide +kernel
theorem dX3_init_49 : decode cX3_init 49 = .ok (.iconst 4, 1) := by decide +kernel
theorem dX3_init_50 : decode cX3_init 50 = .ok (.newarray .int, 2) := by decide +kernel
theorem dX3_init_52 : decode cX3_init 52 = .ok (.putfield 28, 3) := by decide +kernel
theorem dX3_init_55 : decode cX3_init 55 = .ok (.aload_n 0, 1) := by decide +kernel
theorem dX3_init_56 : decode cX3_init 56 = .ok (.iconst 4, 1) := by decide +kernel
theorem dX3_init_57 : decode cX3_init 57 = .ok (.newarray .int, 2) := by decide +kernel
theorem dX3_init_59 : decode cX3_init 59 = .ok (.putfield 31, 3) := by decide +kernel
theorem dX3_init_62 : decode cX3_init 62 = .ok (.aload_n 0, 1) := by decide +kernel
theorem dX3_init_63 : decode cX3_init 63 = .ok (.iconst 4, 1) := by decide +kernel
theorem dX3_init_64 : decode cX3_init 64 = .ok (.newarray .int, 2) := by decide +kernel
theorem dX3_init_66 : decode cX3_init 66 = .ok (.putfield 34, 3) := by decide +kernel
theorem dX3_init_69 : decode cX3_init 69 = .ok (.aload_n 0, 1) := by decide +kernel
theorem dX3_init_70 : decode cX3_init 70 = .ok (.bipush 64, 2) := by decide +kernel
theorem dX3_init_72 : decode cX3_init 72 = .ok (.newarray .int, 2) := by decide +kernel
theorem dX3_init_74 : decode cX3_init 74 = .ok (.putfield 37, 3) := by decide +kernel
theorem dX3_init_77 : decode cX3_init 77 = .ok (.iconst 0, 1) := by decide +kernel
theorem dX3_init_78 : decode cX3_init 78 = .ok (.istore_n 1, 1) := by decide +kernel
theorem dX3_init_79 : decode cX3_init 79 = .ok (.iload_n 1, 1) := by decide +kernel
theorem dX3_init_80 : decode cX3_init 80 = .ok (.iconst 4, 1) := by decide +kernel
theorem dX3_init_81 : decode cX3_init 81 = .ok (.if_icmp .ge 23, 3) := by decide +kernel
theorem dX3_init_84 : decode cX3_init 84 = .ok (.aload_n 0, 1) := by decide +kernel
theorem dX3_init_85 : decode cX3_init 85 = .ok (.getfield 19, 3) := by decide +kernel
theorem dX3_init_88 : decode cX3_init 88 = .ok (.iload_n 1, 1) := by decide +kernel
theorem dX3_init_89 : decode cX3_init 89 = .ok (.iconst (-1), 1) := by decide +kernel
theorem dX3_init_90 : decode cX3_init 90 = .ok (.iastore, 1) := by decide +kernel
theorem dX3_init_91 : decode cX3_init 91 = .ok (.aload_n 0, 1) := by decide +kernel
theorem dX3_init_92 : decode cX3_init 92 = .ok (.getfield 25, 3) := by decide +kernel
theorem dX3_init_95 : decode cX3_init 95 = .ok (.iload_n 1, 1) := by decide +kernel
theorem dX3_init_96 : decode cX3_init 96 = .ok (.iconst (-1), 1) := by decide +kernel
theorem dX3_init_97 : decode cX3_init 97 = .ok (.iastore, 1) := by decide +kernel
theorem dX3_init_98 : decode cX3_init 98 = .ok (.iinc 1 1, 3) := by decide +kernel
theorem dX3_init_101 : decode cX3_init 101 = .ok (.goto (-22), 3) := by decide +kernel
theorem dX3_init_104 : decode cX3_init 104 = .ok (.return_, 1) := by decide +kernel
theorem dX3_in_0 : decode cX3_in 0 = .ok (.iload_n 0, 1) := by decide +kernel
theorem dX3_in_1 : decode cX3_in 1 = .ok (.iload_n 1, 1) := by decide +kernel
theorem dX3_in_2 : decode cX3_in 2 = .ok (.if_icmp .lt 12, 3) := by decide +kernel
theorem dX3_in_5 : decode cX3_in 5 = .ok (.iload_n 0, 1) := by decide +kernel
theorem dX3_in_6 : decode cX3_in 6 = .ok (.iload_n 2, 1) := by decide +kernel
theorem dX3_in_7 : decode cX3_in 7 = .ok (.if_icmp .gt 7, 3) := by decide +kernel
theorem dX3_in_10 : decode cX3_in 10 = .ok (.iconst 1, 1) := by decide +kernel
theorem dX3_in_11 : decode cX3_in 11 = .ok (.goto 4, 3) := by decide +kernel
theorem dX3_in_14 : decode cX3_in 14 = .ok (.iconst 0, 1) := by decide +kernel
theorem dX3_in_15 : decode cX3_in 15 = .ok (.ireturn, 1) := by decide +kernel
set_option maxRecDepth 20000 in
theorem ggX3_isRow_X3_in : GoodIn wsX3_isRow wsX3_in := goodIn_r _ [4] (by decide +kernel) (by decide +kernel)
set_option maxRecDepth 20000 in
theorem gX3_isRow_X3_in : GoodIn wsX3_isRow (va_wsS RX3 40 yX3_in wsX3_in) := goodIn_app (goodIn_of _ (by decide +kernel)) ggX3_isRow_X3_in
theorem dX3_isRow_0 : decode cX3_isRow 0 = .ok (.iload_n 0, 1) := by decide +kernel
theorem dX3_isRow_1 : decode cX3_isRow 1 = .ok (.iconst 0, 1) := by decide +kernel
theorem dX3_isRow_2 : decode cX3_isRow 2 = .ok (.iconst 2, 1) := by decide +kernel
theorem dX3_isRow_3 : decode cX3_isRow 3 = .ok (.invokestatic 40, 3) := by decide +kernel
theorem dX3_isRow_6 : decode cX3_isRow 6 = .ok (.ireturn, 1) := by decide +kernel
set_option maxRecDepth 20000 in
theorem ggX3_isName_X3_in : GoodIn wsX3_isName wsX3_in := goodIn_r _ [4] (by decide +kernel) (by decide +kernel)
set_option maxRecDepth 20000 in
theorem gX3_isName_X3_in : GoodIn wsX3_isName (va_wsS RX3 40 yX3_in wsX3_in) := goodIn_app (goodIn_of _ (by decide +kernel)) ggX3_isName_X3_in
theorem dX3_isName_0 : decode cX3_isName 0 = .ok (.iload_n 0, 1) := by decide +kernel
theorem dX3_isName_1 : decode cX3_isName 1 = .ok (.iconst 0, 1) := by decide +kernel
theorem dX3_isName_2 : decode cX3_isName 2 = .ok (.bipush 9, 2) := by decide +kernel
theorem dX3_isName_4 : decode cX3_isName 4 = .ok (.invokestatic 40, 3) := by decide +kernel
theorem dX3_isName_7 : decode cX3_isName 7 = .ok (.ireturn, 1) := by decide +kernel
set_option maxRecDepth 20000 in
theorem ggX3_isPeg_X3_in : GoodIn wsX3_isPeg wsX3_in := goodIn_r _ [4] (by decide +kernel) (by decide +kernel)
set_option maxRecDepth 20000 in
theorem gX3_isPeg_X3_in : GoodIn wsX3_isPeg (va_wsS RX3 40 yX3_in wsX3_in) := goodIn_app (goodIn_of _ (by decide +kernel)) ggX3_isPeg_X3_in
theorem dX3_isPeg_0 : decode cX3_isPeg 0 = .ok (.iload_n 0, 1) := by decide +kernel
theorem dX3_isPeg_1 : decode cX3_isPeg 1 = .ok (.iconst 0, 1) := by decide +kernel
theorem dX3_isPeg_2 : decode cX3_isPeg 2 = .ok (.iconst 3, 1) := by decide +kernel
theorem dX3_isPeg_3 : decode cX3_isPeg 3 = .ok (.invokestatic 40, 3) := by decide +kernel
theorem dX3_isPeg_6 : decode cX3_isPeg 6 = .ok (.ireturn, 1) := by decide +kernel
theorem dX3_refuse_0 : decode cX3_refuse 0 = .ok (.aload_n 0, 1) := by decide +kernel
theorem dX3_refuse_1 : decode cX3_refuse 1 = .ok (.getfield 16, 3) := by decide +kernel
theorem dX3_refuse_4 : decode cX3_refuse 4 = .ok (.iload_n 1, 1) := by decide +kernel
theorem dX3_refuse_5 : decode cX3_refuse 5 = .ok (.dup2, 1) := by decide +kernel
theorem dX3_refuse_6 : decode cX3_refuse 6 = .ok (.iaload, 1) := by decide +kernel
theorem dX3_refuse_7 : decode cX3_refuse 7 = .ok (.iconst 1, 1) := by decide +kernel
theorem dX3_refuse_8 : decode cX3_refuse 8 = .ok (.iadd, 1) := by decide +kernel
theorem dX3_refuse_9 : decode cX3_refuse 9 = .ok (.iastore, 1) := by decide +kernel
theorem dX3_refuse_10 : decode cX3_refuse 10 = .ok (.iload_n 2, 1) := by decide +kernel
theorem dX3_refuse_11 : decode cX3_refuse 11 = .ok (.ireturn, 1) := by decide +kernel
theorem dX3_make_0 : decode cX3_make 0 = .ok (.aload_n 0, 1) := by decide +kernel
theorem dX3_make_1 : decode cX3_make 1 = .ok (.dup, 1) := by decide +kernel
theorem dX3_make_2 : decode cX3_make 2 = .ok (.getfield 44, 3) := by decide +kernel
theorem dX3_make_5 : decode cX3_make 5 = .ok (.iconst 1, 1) := by decide +kernel
theorem dX3_make_6 : decode cX3_make 6 = .ok (.iadd, 1) := by decide +kernel
theorem dX3_make_7 : decode cX3_make 7 = .ok (.putfield 44, 3) := by decide +kernel
theorem dX3_make_10 : decode cX3_make 10 = .ok (.bipush 10, 2) := by decide +kernel
theorem dX3_make_12 : decode cX3_make 12 = .ok (.aload_n 0, 1) := by decide +kernel
theorem dX3_make_13 : decode cX3_make 13 = .ok (.getfield 44, 3) := by decide +kernel
theorem dX3_make_16 : decode cX3_make 16 = .ok (.iconst 1, 1) := by decide +kernel
theorem dX3_make_17 : decode cX3_make 17 = .ok (.isub, 1) := by decide +kernel
theorem dX3_make_18 : decode cX3_make 18 = .ok (.imul, 1) := by decide +kernel
theorem dX3_make_19 : decode cX3_make 19 = .ok (.iload_n 1, 1) := by decide +kernel
theorem dX3_make_20 : decode cX3_make 20 = .ok (.iadd, 1) := by decide +kernel
theorem dX3_make_21 : decode cX3_make 21 = .ok (.ireturn, 1) := by decide +kernel
theorem dX3_thing_0 : decode cX3_thing 0 = .ok (.aload_n 0, 1) := by decide +kernel
theorem dX3_thing_1 : decode cX3_thing 1 = .ok (.getfield 7, 3) := by decide +kernel
theorem dX3_thing_4 : decode cX3_thing 4 = .ok (.bipush 64, 2) := by decide +kernel
theorem dX3_thing_6 : decode cX3_thing 6 = .ok (.iload_n 1, 1) := by decide +kernel
theorem dX3_thing_7 : decode cX3_thing 7 = .ok (.imul, 1) := by decide +kernel
theorem dX3_thing_8 : decode cX3_thing 8 = .ok (.iload_n 2, 1) := by decide +kernel
theorem dX3_thing_9 : decode cX3_thing 9 = .ok (.iadd, 1) := by decide +kernel
theorem dX3_thing_10 : decode cX3_thing 10 = .ok (.iaload, 1) := by decide +kernel
theorem dX3_thing_11 : decode cX3_thing 11 = .ok (.ireturn, 1) := by decide +kernel
theorem dX3_age_0 : decode cX3_age 0 = .ok (.iconst 0, 1) := by decide +kernel
theorem dX3_age_1 : decode cX3_age 1 = .ok (.istore_n 3, 1) := by decide +kernel
theorem dX3_age_2 : decode cX3_age 2 = .ok (.iload_n 3, 1) := by decide +kernel
theorem dX3_age_3 : decode cX3_age 3 = .ok (.iconst 4, 1) := by decide +kernel
theorem dX3_age_4 : decode cX3_age 4 = .ok (.if_icmp .ge 40, 3) := by decide +kernel
theorem dX3_age_7 : decode cX3_age 7 = .ok (.aload_n 0, 1) := by decide +kernel
theorem dX3_age_8 : decode cX3_age 8 = .ok (.getfield 34, 3) := by decide +kernel
theorem dX3_age_11 : decode cX3_age 11 = .ok (.iload_n 3, 1) := by decide +kernel
theorem dX3_age_12 : decode cX3_age 12 = .ok (.aload_n 0, 1) := by decide +kernel
theorem dX3_age_13 : decode cX3_age 13 = .ok (.getfield 19, 3) := by decide +kernel
theorem dX3_age_16 : decode cX3_age 16 = .ok (.iload_n 3, 1) := by decide +kernel
theorem dX3_age_17 : decode cX3_age 17 = .ok (.iaload, 1) := by decide +kernel
theorem dX3_age_18 : decode cX3_age 18 = .ok (.iload_n 1, 1) := by decide +kernel
theorem dX3_age_19 : decode cX3_age 19 = .ok (.if_icmp .ne 12, 3) := by decide +kernel
theorem dX3_age_22 : decode cX3_age 22 = .ok (.iload_n 3, 1) := by decide +kernel
theorem dX3_age_23 : decode cX3_age 23 = .ok (.iload_n 2, 1) := by decide +kernel
theorem dX3_age_24 : decode cX3_age 24 = .ok (.if_icmp .eq 7, 3) := by decide +kernel
theorem dX3_age_27 : decode cX3_age 27 = .ok (.iconst 1, 1) := by decide +kernel
theorem dX3_age_28 : decode cX3_age 28 = .ok (.goto 9, 3) := by decide +kernel
theorem dX3_age_31 : decode cX3_age 31 = .ok (.aload_n 0, 1) := by decide +kernel
theorem dX3_age_32 : decode cX3_age 32 = .ok (.getfield 34, 3) := by decide +kernel
theorem dX3_age_35 : decode cX3_age 35 = .ok (.iload_n 3, 1) := by decide +kernel
theorem dX3_age_36 : decode cX3_age 36 = .ok (.iaload, 1) := by decide +kernel
theorem dX3_age_37 : decode cX3_age 37 = .ok (.iastore, 1) := by decide +kernel
theorem dX3_age_38 : decode cX3_age 38 = .ok (.iinc 3 1, 3) := by decide +kernel
theorem dX3_age_41 : decode cX3_age 41 = .ok (.goto (-39), 3) := by decide +kernel
theorem dX3_age_44 : decode cX3_age 44 = .ok (.return_, 1) := by decide +kernel
set_option maxRecDepth 20000 in
theorem ggX3_open_X3_thing : GoodIn wsX3_open wsX3_thing := goodIn_r _ [7, 2, 8, 9, 10, 11, 12, 13, 14, 15, 16, 17, 18] (by decide +kernel) (by decide +kernel)
set_option maxRecDepth 20000 in
theorem gX3_open_X3_thing : GoodIn wsX3_open (wsV RX3 48 RX3 yX3_thing wsX3_thing) := goodIn_app (goodIn_of _ (by decide +kernel)) ggX3_open_X3_thing
theorem dX3_open_0 : decode cX3_open 0 = .ok (.aload_n 0, 1) := by decide +kernel
theorem dX3_open_1 : decode cX3_open 1 = .ok (.getfield 13, 3) := by decide +kernel
theorem dX3_open_4 : decode cX3_open 4 = .ok (.iload_n 1, 1) := by decide +kernel
theorem dX3_open_5 : decode cX3_open 5 = .ok (.iaload, 1) := by decide +kernel
theorem dX3_open_6 : decode cX3_open 6 = .ok (.istore 4, 2) := by decide +kernel
theorem dX3_open_8 : decode cX3_open 8 = .ok (.iload 4, 2) := by decide +kernel
theorem dX3_open_10 : decode cX3_open 10 = .ok (.iload_n 2, 1) := by decide +kernel
theorem dX3_open_11 : decode cX3_open 11 = .ok (.if_icmp .le 30, 3) := by decide +kernel
theorem dX3_open_14 : decode cX3_open 14 = .ok (.aload_n 0, 1) := by decide +kernel
theorem dX3_open_15 : decode cX3_open 15 = .ok (.getfield 7, 3) := by decide +kernel
theorem dX3_open_18 : decode cX3_open 18 = .ok (.bipush 64, 2) := by decide +kernel
theorem dX3_open_20 : decode cX3_open 20 = .ok (.iload_n 1, 1) := by decide +kernel
theorem dX3_open_21 : decode cX3_open 21 = .ok (.imul, 1) := by decide +kernel
theorem dX3_open_22 : decode cX3_open 22 = .ok (.iload 4, 2) := by decide +kernel
theorem dX3_open_24 : decode cX3_open 24 = .ok (.iadd, 1) := by decide +kernel
theorem dX3_open_25 : decode cX3_open 25 = .ok (.aload_n 0, 1) := by decide +kernel
theorem dX3_open_26 : decode cX3_open 26 = .ok (.iload_n 1, 1) := by decide +kernel
theorem dX3_open_27 : decode cX3_open 27 = .ok (.iload 4, 2) := by decide +kernel
theorem dX3_open_29 : decode cX3_open 29 = .ok (.iconst 1, 1) := by decide +kernel
theorem dX3_open_30 : decode cX3_open 30 = .ok (.isub, 1) := by decide +kernel
theorem dX3_open_31 : decode cX3_open 31 = .ok (.invokevirtual 48, 3) := by decide +kernel
theorem dX3_open_34 : decode cX3_open 34 = .ok (.iastore, 1) := by decide +kernel
theorem dX3_open_35 : decode cX3_open 35 = .ok (.iinc 4 (-1), 3) := by decide +kernel
theorem dX3_open_38 : decode cX3_open 38 = .ok (.goto (-30), 3) := by decide +kernel
theorem dX3_open_41 : decode cX3_open 41 = .ok (.aload_n 0, 1) := by decide +kernel
theorem dX3_open_42 : decode cX3_open 42 = .ok (.getfield 7, 3) := by decide +kernel
theorem dX3_open_45 : decode cX3_open 45 = .ok (.bipush 64, 2) := by decide +kernel
theorem dX3_open_47 : decode cX3_open 47 = .ok (.iload_n 1, 1) := by decide +kernel
theorem dX3_open_48 : decode cX3_open 48 = .ok (.imul, 1) := by decide +kernel
theorem dX3_open_49 : decode cX3_open 49 = .ok (.iload_n 2, 1) := by decide +kernel
theorem dX3_open_50 : decode cX3_open 50 = .ok (.iadd, 1) := by decide +kernel
theorem dX3_open_51 : decode cX3_open 51 = .ok (.iload_n 3, 1) := by decide +kernel
theorem dX3_open_52 : decode cX3_open 52 = .ok (.iastore, 1) := by decide +kernel
theorem dX3_open_53 : decode cX3_open 53 = .ok (.aload_n 0, 1) := by decide +kernel
theorem dX3_open_54 : decode cX3_open 54 = .ok (.getfield 13, 3) := by decide +kernel
theorem dX3_open_57 : decode cX3_open 57 = .ok (.iload_n 1, 1) := by decide +kernel
theorem dX3_open_58 : decode cX3_open 58 = .ok (.dup2, 1) := by decide +kernel
theorem dX3_open_59 : decode cX3_open 59 = .ok (.iaload, 1) := by decide +kernel
theorem dX3_open_60 : decode cX3_open 60 = .ok (.iconst 1, 1) := by decide +kernel
theorem dX3_open_61 : decode cX3_open 61 = .ok (.iadd, 1) := by decide +kernel
theorem dX3_open_62 : decode cX3_open 62 = .ok (.iastore, 1) := by decide +kernel
theorem dX3_open_63 : decode cX3_open 63 = .ok (.return_, 1) := by decide +kernel
set_option maxRecDepth 20000 in
theorem ggX3_close_X3_thing : GoodIn wsX3_close wsX3_thing := goodIn_r _ [7, 2, 8, 9, 10, 11, 12, 13, 14, 15, 16, 17, 18] (by decide +kernel) (by decide +kernel)
set_option maxRecDepth 20000 in
theorem gX3_close_X3_thing : GoodIn wsX3_close (wsV RX3 48 RX3 yX3_thing wsX3_thing) := goodIn_app (goodIn_of _ (by decide +kernel)) ggX3_close_X3_thing
theorem dX3_close_0 : decode cX3_close 0 = .ok (.aload_n 0, 1) := by decide +kernel
theorem dX3_close_1 : decode cX3_close 1 = .ok (.iload_n 1, 1) := by decide +kernel
theorem dX3_close_2 : decode cX3_close 2 = .ok (.iload_n 2, 1) := by decide +kernel
theorem dX3_close_3 : decode cX3_close 3 = .ok (.invokevirtual 48, 3) := by decide +kernel
theorem dX3_close_6 : decode cX3_close 6 = .ok (.istore_n 3, 1) := by decide +kernel
theorem dX3_close_7 : decode cX3_close 7 = .ok (.aload_n 0, 1) := by decide +kernel
theorem dX3_close_8 : decode cX3_close 8 = .ok (.getfield 13, 3) := by decide +kernel
theorem dX3_close_11 : decode cX3_close 11 = .ok (.iload_n 1, 1) := by decide +kernel
theorem dX3_close_12 : decode cX3_close 12 = .ok (.dup2, 1) := by decide +kernel
theorem dX3_close_13 : decode cX3_close 13 = .ok (.iaload, 1) := by decide +kernel
theorem dX3_close_14 : decode cX3_close 14 = .ok (.iconst 1, 1) := by decide +kernel
theorem dX3_close_15 : decode cX3_close 15 = .ok (.isub, 1) := by decide +kernel
theorem dX3_close_16 : decode cX3_close 16 = .ok (.iastore, 1) := by decide +kernel
theorem dX3_close_17 : decode cX3_close 17 = .ok (.iload_n 2, 1) := by decide +kernel
theorem dX3_close_18 : decode cX3_close 18 = .ok (.istore 4, 2) := by decide +kernel
theorem dX3_close_20 : decode cX3_close 20 = .ok (.iload 4, 2) := by decide +kernel
theorem dX3_close_22 : decode cX3_close 22 = .ok (.aload_n 0, 1) := by decide +kernel
theorem dX3_close_23 : decode cX3_close 23 = .ok (.getfield 13, 3) := by decide +kernel
theorem dX3_close_26 : decode cX3_close 26 = .ok (.iload_n 1, 1) := by decide +kernel
theorem dX3_close_27 : decode cX3_close 27 = .ok (.iaload, 1) := by decide +kernel
theorem dX3_close_28 : decode cX3_close 28 = .ok (.if_icmp .ge 30, 3) := by decide +kernel
theorem dX3_close_31 : decode cX3_close 31 = .ok (.aload_n 0, 1) := by decide +kernel
theorem dX3_close_32 : decode cX3_close 32 = .ok (.getfield 7, 3) := by decide +kernel
theorem dX3_close_35 : decode cX3_close 35 = .ok (.bipush 64, 2) := by decide +kernel
theorem dX3_close_37 : decode cX3_close 37 = .ok (.iload_n 1, 1) := by decide +kernel
theorem dX3_close_38 : decode cX3_close 38 = .ok (.imul, 1) := by decide +kernel
theorem dX3_close_39 : decode cX3_close 39 = .ok (.iload 4, 2) := by decide +kernel
theorem dX3_close_41 : decode cX3_close 41 = .ok (.iadd, 1) := by decide +kernel
theorem dX3_close_42 : decode cX3_close 42 = .ok (.aload_n 0, 1) := by decide +kernel
theorem dX3_close_43 : decode cX3_close 43 = .ok (.iload_n 1, 1) := by decide +kernel
theorem dX3_close_44 : decode cX3_close 44 = .ok (.iload 4, 2) := by decide +kernel
theorem dX3_close_46 : decode cX3_close 46 = .ok (.iconst 1, 1) := by decide +kernel
theorem dX3_close_47 : decode cX3_close 47 = .ok (.iadd, 1) := by decide +kernel
theorem dX3_close_48 : decode cX3_close 48 = .ok (.invokevirtual 48, 3) := by decide +kernel
theorem dX3_close_51 : decode cX3_close 51 = .ok (.iastore, 1) := by decide +kernel
theorem dX3_close_52 : decode cX3_close 52 = .ok (.iinc 4 1, 3) := by decide +kernel
theorem dX3_close_55 : decode cX3_close 55 = .ok (.goto (-35), 3) := by decide +kernel
theorem dX3_close_58 : decode cX3_close 58 = .ok (.iload_n 3, 1) := by decide +kernel
theorem dX3_close_59 : decode cX3_close 59 = .ok (.ireturn, 1) := by decide +kernel
set_option maxRecDepth 20000 in
theorem ggX3_placeBy_X3_thing : GoodIn wsX3_placeBy wsX3_thing := goodIn_r _ [6, 7, 8, 9, 10, 11, 12, 13, 14, 15, 16, 17, 18] (by decide +kernel) (by decide +kernel)
set_option maxRecDepth 20000 in
theorem gX3_placeBy_X3_thing : GoodIn wsX3_placeBy (wsV RX3 48 RX3 yX3_thing wsX3_thing) := goodIn_app (goodIn_of _ (by decide +kernel)) ggX3_placeBy_X3_thing
theorem dX3_placeBy_0 : decode cX3_placeBy 0 = .ok (.iconst (-1), 1) := by decide +kernel
theorem dX3_placeBy_1 : decode cX3_placeBy 1 = .ok (.istore 4, 2) := by decide +kernel
theorem dX3_placeBy_3 : decode cX3_placeBy 3 = .ok (.iconst 0, 1) := by decide +kernel
theorem dX3_placeBy_4 : decode cX3_placeBy 4 = .ok (.istore 5, 2) := by decide +kernel
theorem dX3_placeBy_6 : decode cX3_placeBy 6 = .ok (.iload 5, 2) := by decide +kernel
theorem dX3_placeBy_8 : decode cX3_placeBy 8 = .ok (.aload_n 0, 1) := by decide +kernel
theorem dX3_placeBy_9 : decode cX3_placeBy 9 = .ok (.getfield 13, 3) := by decide +kernel
theorem dX3_placeBy_12 : decode cX3_placeBy 12 = .ok (.iload_n 1, 1) := by decide +kernel
theorem dX3_placeBy_13 : decode cX3_placeBy 13 = .ok (.iaload, 1) := by decide +kernel
theorem dX3_placeBy_14 : decode cX3_placeBy 14 = .ok (.if_icmp .ge 42, 3) := by decide +kernel
theorem dX3_placeBy_17 : decode cX3_placeBy 17 = .ok (.aload_n 0, 1) := by decide +kernel
theorem dX3_placeBy_18 : decode cX3_placeBy 18 = .ok (.iload_n 1, 1) := by decide +kernel
theorem dX3_placeBy_19 : decode cX3_placeBy 19 = .ok (.iload 5, 2) := by decide +kernel
theorem dX3_placeBy_21 : decode cX3_placeBy 21 = .ok (.invokevirtual 48, 3) := by decide +kernel
theorem dX3_placeBy_24 : decode cX3_placeBy 24 = .ok (.bipush 10, 2) := by decide +kernel
theorem dX3_placeBy_26 : decode cX3_placeBy 26 = .ok (.irem, 1) := by decide +kernel
theorem dX3_placeBy_27 : decode cX3_placeBy 27 = .ok (.iload_n 2, 1) := by decide +kernel
theorem dX3_placeBy_28 : decode cX3_placeBy 28 = .ok (.if_icmp .ne 18, 3) := by decide +kernel
theorem dX3_placeBy_31 : decode cX3_placeBy 31 = .ok (.iload_n 3, 1) := by decide +kernel
theorem dX3_placeBy_32 : decode cX3_placeBy 32 = .ok (.ifCond .ne 9, 3) := by decide +kernel
theorem dX3_placeBy_35 : decode cX3_placeBy 35 = .ok (.iload 4, 2) := by decide +kernel
theorem dX3_placeBy_37 : decode cX3_placeBy 37 = .ok (.iconst (-1), 1) := by decide +kernel
theorem dX3_placeBy_38 : decode cX3_placeBy 38 = .ok (.if_icmp .ne 8, 3) := by decide +kernel
theorem dX3_placeBy_41 : decode cX3_placeBy 41 = .ok (.iload 5, 2) := by decide +kernel
theorem dX3_placeBy_43 : decode cX3_placeBy 43 = .ok (.goto 5, 3) := by decide +kernel
theorem dX3_placeBy_46 : decode cX3_placeBy 46 = .ok (.iload 4, 2) := by decide +kernel
theorem dX3_placeBy_48 : decode cX3_placeBy 48 = .ok (.istore 4, 2) := by decide +kernel
theorem dX3_placeBy_50 : decode cX3_placeBy 50 = .ok (.iinc 5 1, 3) := by decide +kernel
theorem dX3_placeBy_53 : decode cX3_placeBy 53 = .ok (.goto (-47), 3) := by decide +kernel
theorem dX3_placeBy_56 : decode cX3_placeBy 56 = .ok (.iload 4, 2) := by decide +kernel
theorem dX3_placeBy_58 : decode cX3_placeBy 58 = .ok (.ireturn, 1) := by decide +kernel
set_option maxRecDepth 20000 in
theorem ggX3_put_X3_isRow : GoodIn wsX3_put wsX3_isRow := goodIn_r _ [5, 6, 7, 4, 8] (by decide +kernel) (by decide +kernel)
set_option maxRecDepth 20000 in
theorem gX3_put_X3_isRow : GoodIn wsX3_put (va_wsS RX3 52 yX3_isRow wsX3_isRow) := goodIn_app (goodIn_of _ (by decide +kernel)) ggX3_put_X3_isRow
set_option maxRecDepth 20000 in
theorem ggX3_put_X3_isName : GoodIn wsX3_put wsX3_isName := goodIn_r _ [11, 6, 7, 4, 8] (by decide +kernel) (by decide +kernel)
set_option maxRecDepth 20000 in
theorem gX3_put_X3_isName : GoodIn wsX3_put (va_wsS RX3 56 yX3_isName wsX3_isName) := goodIn_app (goodIn_of _ (by decide +kernel)) ggX3_put_X3_isName
set_option maxRecDepth 20000 in
theorem ggX3_put_X3_in : GoodIn wsX3_put wsX3_in := goodIn_r _ [8] (by decide +kernel) (by decide +kernel)
set_option maxRecDepth 20000 in
theorem gX3_put_X3_in : GoodIn wsX3_put (va_wsS RX3 40 yX3_in wsX3_in) := goodIn_app (goodIn_of _ (by decide +kernel)) ggX3_put_X3_in
set_option maxRecDepth 20000 in
theorem ggX3_put_X3_make : GoodIn wsX3_put wsX3_make := goodIn_r _ [15, 16, 32, 33, 34, 35, 36, 37, 38, 39, 40, 41, 42] (by decide +kernel) (by decide +kernel)
set_option maxRecDepth 20000 in
theorem gX3_put_X3_make : GoodIn wsX3_put (wsV RX3 59 RX3 yX3_make wsX3_make) := goodIn_app (goodIn_of _ (by decide +kernel)) ggX3_put_X3_make
set_option maxRecDepth 20000 in
theorem ggX3_put_X3_open : GoodIn wsX3_put wsX3_open := goodIn_r _ [20, 1, 21, 22, 23, 24, 4, 25, 32, 33, 34, 35, 36, 37, 38, 39, 40, 41, 42] (by decide +kernel) (by decide +kernel)
set_option maxRecDepth 20000 in
theorem gX3_put_X3_open : GoodIn wsX3_put (wsV RX3 63 RX3 yX3_open wsX3_open) := goodIn_app (goodIn_of _ (by decide +kernel)) ggX3_put_X3_open
set_option maxRecDepth 20000 in
theorem ggX3_put_X3_age : GoodIn wsX3_put wsX3_age := goodIn_r _ [29, 30, 31, 32, 33, 34, 35, 36, 37, 38, 39, 40, 41, 42] (by decide +kernel) (by decide +kernel)
set_option maxRecDepth 20000 in
theorem gX3_put_X3_age : GoodIn wsX3_put (wsV RX3 67 RX3 yX3_age wsX3_age) := goodIn_app (goodIn_of _ (by decide +kernel)) ggX3_put_X3_age
theorem dX3_put_0 : decode cX3_put 0 = .ok (.iload_n 1, 1) := by decide +kernel
theorem dX3_put_1 : decode cX3_put 1 = .ok (.invokestatic 52, 3) := by decide +kernel
theorem dX3_put_4 : decode cX3_put 4 = .ok (.ifCond .eq 20, 3) := by decide +kernel
theorem dX3_put_7 : decode cX3_put 7 = .ok (.iload_n 2, 1) := by decide +kernel
theorem dX3_put_8 : decode cX3_put 8 = .ok (.invokestatic 56, 3) := by decide +kernel
theorem dX3_put_11 : decode cX3_put 11 = .ok (.ifCond .eq 13, 3) := by decide +kernel
theorem dX3_put_14 : decode cX3_put 14 = .ok (.iload 4, 2) := by decide +kernel
theorem dX3_put_16 : decode cX3_put 16 = .ok (.iconst 0, 1) := by decide +kernel
theorem dX3_put_17 : decode cX3_put 17 = .ok (.iconst 2, 1) := by decide +kernel
theorem dX3_put_18 : decode cX3_put 18 = .ok (.invokestatic 40, 3) := by decide +kernel
theorem dX3_put_21 : decode cX3_put 21 = .ok (.ifCond .ne 5, 3) := by decide +kernel
theorem dX3_put_24 : decode cX3_put 24 = .ok (.iconst (-1), 1) := by decide +kernel
theorem dX3_put_25 : decode cX3_put 25 = .ok (.ireturn, 1) := by decide +kernel
theorem dX3_put_26 : decode cX3_put 26 = .ok (.aload_n 0, 1) := by decide +kernel
theorem dX3_put_27 : decode cX3_put 27 = .ok (.getfield 13, 3) := by decide +kernel
theorem dX3_put_30 : decode cX3_put 30 = .ok (.iload_n 1, 1) := by decide +kernel
theorem dX3_put_31 : decode cX3_put 31 = .ok (.iaload, 1) := by decide +kernel
theorem dX3_put_32 : decode cX3_put 32 = .ok (.bipush 60, 2) := by decide +kernel
theorem dX3_put_34 : decode cX3_put 34 = .ok (.if_icmp .ne 6, 3) := by decide +kernel
theorem dX3_put_37 : decode cX3_put 37 = .ok (.bipush (-3), 2) := by decide +kernel
theorem dX3_put_39 : decode cX3_put 39 = .ok (.ireturn, 1) := by decide +kernel
theorem dX3_put_40 : decode cX3_put 40 = .ok (.aload_n 0, 1) := by decide +kernel
theorem dX3_put_41 : decode cX3_put 41 = .ok (.iload_n 1, 1) := by decide +kernel
theorem dX3_put_42 : decode cX3_put 42 = .ok (.iload_n 3, 1) := by decide +kernel
theorem dX3_put_43 : decode cX3_put 43 = .ok (.ifCond .eq 12, 3) := by decide +kernel
theorem dX3_put_46 : decode cX3_put 46 = .ok (.aload_n 0, 1) := by decide +kernel
theorem dX3_put_47 : decode cX3_put 47 = .ok (.getfield 13, 3) := by decide +kernel
theorem dX3_put_50 : decode cX3_put 50 = .ok (.iload_n 1, 1) := by decide +kernel
theorem dX3_put_51 : decode cX3_put 51 = .ok (.iaload, 1) := by decide +kernel
theorem dX3_put_52 : decode cX3_put 52 = .ok (.goto 4, 3) := by decide +kernel
theorem dX3_put_55 : decode cX3_put 55 = .ok (.iconst 0, 1) := by decide +kernel
theorem dX3_put_56 : decode cX3_put 56 = .ok (.aload_n 0, 1) := by decide +kernel
theorem dX3_put_57 : decode cX3_put 57 = .ok (.iload_n 2, 1) := by decide +kernel
theorem dX3_put_58 : decode cX3_put 58 = .ok (.invokevirtual 59, 3) := by decide +kernel
theorem dX3_put_61 : decode cX3_put 61 = .ok (.invokevirtual 63, 3) := by decide +kernel
theorem dX3_put_64 : decode cX3_put 64 = .ok (.aload_n 0, 1) := by decide +kernel
theorem dX3_put_65 : decode cX3_put 65 = .ok (.iload_n 1, 1) := by decide +kernel
theorem dX3_put_66 : decode cX3_put 66 = .ok (.iconst (-1), 1) := by decide +kernel
theorem dX3_put_67 : decode cX3_put 67 = .ok (.invokevirtual 67, 3) := by decide +kernel
theorem dX3_put_70 : decode cX3_put 70 = .ok (.aload_n 0, 1) := by decide +kernel
theorem dX3_put_71 : decode cX3_put 71 = .ok (.getfield 13, 3) := by decide +kernel
theorem dX3_put_74 : decode cX3_put 74 = .ok (.iload_n 1, 1) := by decide +kernel
theorem dX3_put_75 : decode cX3_put 75 = .ok (.iaload, 1) := by decide +kernel
theorem dX3_put_76 : decode cX3_put 76 = .ok (.ireturn, 1) := by decide +kernel
set_option maxRecDepth 20000 in
theorem ggX3_end_X3_isRow : GoodIn wsX3_end wsX3_isRow := goodIn_r _ [5, 6, 7, 4, 8] (by decide +kernel) (by decide +kernel)
set_option maxRecDepth 20000 in
theorem gX3_end_X3_isRow : GoodIn wsX3_end (va_wsS RX3 52 yX3_isRow wsX3_isRow) := goodIn_app (goodIn_of _ (by decide +kernel)) ggX3_end_X3_isRow
set_option maxRecDepth 20000 in
theorem ggX3_end_X3_in : GoodIn wsX3_end wsX3_in := goodIn_r _ [8] (by decide +kernel) (by decide +kernel)
set_option maxRecDepth 20000 in
theorem gX3_end_X3_in : GoodIn wsX3_end (va_wsS RX3 40 yX3_in wsX3_in) := goodIn_app (goodIn_of _ (by decide +kernel)) ggX3_end_X3_in
set_option maxRecDepth 20000 in
theorem ggX3_end_X3_refuse : GoodIn wsX3_end wsX3_refuse := goodIn_r _ [12, 13, 19, 20, 21, 22, 23, 24, 25, 26, 27, 28, 29] (by decide +kernel) (by decide +kernel)
set_option maxRecDepth 20000 in
theorem gX3_end_X3_refuse : GoodIn wsX3_end (wsV RX3 71 RX3 yX3_refuse wsX3_refuse) := goodIn_app (goodIn_of _ (by decide +kernel)) ggX3_end_X3_refuse
set_option maxRecDepth 20000 in
theorem ggX3_end_X3_thing : GoodIn wsX3_end wsX3_thing := goodIn_r _ [17, 18, 19, 20, 21, 22, 23, 24, 25, 26, 27, 28, 29] (by decide +kernel) (by decide +kernel)
set_option maxRecDepth 20000 in
theorem gX3_end_X3_thing : GoodIn wsX3_end (wsV RX3 48 RX3 yX3_thing wsX3_thing) := goodIn_app (goodIn_of _ (by decide +kernel)) ggX3_end_X3_thing
theorem dX3_end_0 : decode cX3_end 0 = .ok (.iload_n 1, 1) := by decide +kernel
theorem dX3_end_1 : decode cX3_end 1 = .ok (.invokestatic 52, 3) := by decide +kernel
theorem dX3_end_4 : decode cX3_end 4 = .ok (.ifCond .eq 20, 3) := by decide +kernel
theorem dX3_end_7 : decode cX3_end 7 = .ok (.iload_n 3, 1) := by decide +kernel
theorem dX3_end_8 : decode cX3_end 8 = .ok (.iconst 0, 1) := by decide +kernel
theorem dX3_end_9 : decode cX3_end 9 = .ok (.iload_n 2, 1) := by decide +kernel
theorem dX3_end_10 : decode cX3_end 10 = .ok (.ifCond .eq 7, 3) := by decide +kernel
theorem dX3_end_13 : decode cX3_end 13 = .ok (.iconst 1, 1) := by decide +kernel
theorem dX3_end_14 : decode cX3_end 14 = .ok (.goto 4, 3) := by decide +kernel
theorem dX3_end_17 : decode cX3_end 17 = .ok (.iconst 3, 1) := by decide +kernel
theorem dX3_end_18 : decode cX3_end 18 = .ok (.invokestatic 40, 3) := by decide +kernel
theorem dX3_end_21 : decode cX3_end 21 = .ok (.ifCond .ne 5, 3) := by decide +kernel
theorem dX3_end_24 : decode cX3_end 24 = .ok (.iconst (-1), 1) := by decide +kernel
theorem dX3_end_25 : decode cX3_end 25 = .ok (.ireturn, 1) := by decide +kernel
theorem dX3_end_26 : decode cX3_end 26 = .ok (.aload_n 0, 1) := by decide +kernel
theorem dX3_end_27 : decode cX3_end 27 = .ok (.getfield 13, 3) := by decide +kernel
theorem dX3_end_30 : decode cX3_end 30 = .ok (.iload_n 1, 1) := by decide +kernel
theorem dX3_end_31 : decode cX3_end 31 = .ok (.iaload, 1) := by decide +kernel
theorem dX3_end_32 : decode cX3_end 32 = .ok (.ifCond .ne 22, 3) := by decide +kernel
theorem dX3_end_35 : decode cX3_end 35 = .ok (.iload_n 3, 1) := by decide +kernel
theorem dX3_end_36 : decode cX3_end 36 = .ok (.iconst 2, 1) := by decide +kernel
theorem dX3_end_37 : decode cX3_end 37 = .ok (.irem, 1) := by decide +kernel
theorem dX3_end_38 : decode cX3_end 38 = .ok (.ifCond .ne 13, 3) := by decide +kernel
theorem dX3_end_41 : decode cX3_end 41 = .ok (.aload_n 0, 1) := by decide +kernel
theorem dX3_end_42 : decode cX3_end 42 = .ok (.iconst 0, 1) := by decide +kernel
theorem dX3_end_43 : decode cX3_end 43 = .ok (.bipush (-6), 2) := by decide +kernel
theorem dX3_end_45 : decode cX3_end 45 = .ok (.invokevirtual 71, 3) := by decide +kernel
theorem dX3_end_48 : decode cX3_end 48 = .ok (.goto 5, 3) := by decide +kernel
theorem dX3_end_51 : decode cX3_end 51 = .ok (.bipush (-6), 2) := by decide +kernel
theorem dX3_end_53 : decode cX3_end 53 = .ok (.ireturn, 1) := by decide +kernel
theorem dX3_end_54 : decode cX3_end 54 = .ok (.aload_n 0, 1) := by decide +kernel
theorem dX3_end_55 : decode cX3_end 55 = .ok (.iload_n 1, 1) := by decide +kernel
theorem dX3_end_56 : decode cX3_end 56 = .ok (.iload_n 2, 1) := by decide +kernel
theorem dX3_end_57 : decode cX3_end 57 = .ok (.ifCond .eq 14, 3) := by decide +kernel
theorem dX3_end_60 : decode cX3_end 60 = .ok (.aload_n 0, 1) := by decide +kernel
theorem dX3_end_61 : decode cX3_end 61 = .ok (.getfield 13, 3) := by decide +kernel
theorem dX3_end_64 : decode cX3_end 64 = .ok (.iload_n 1, 1) := by decide +kernel
theorem dX3_end_65 : decode cX3_end 65 = .ok (.iaload, 1) := by decide +kernel
theorem dX3_end_66 : decode cX3_end 66 = .ok (.iconst 1, 1) := by decide +kernel
theorem dX3_end_67 : decode cX3_end 67 = .ok (.isub, 1) := by decide +kernel
theorem dX3_end_68 : decode cX3_end 68 = .ok (.goto 4, 3) := by decide +kernel
theorem dX3_end_71 : decode cX3_end 71 = .ok (.iconst 0, 1) := by decide +kernel
theorem dX3_end_72 : decode cX3_end 72 = .ok (.invokevirtual 48, 3) := by decide +kernel
theorem dX3_end_75 : decode cX3_end 75 = .ok (.ireturn, 1) := by decide +kernel
set_option maxRecDepth 20000 in
theorem ggX3_take_X3_isRow : GoodIn wsX3_take wsX3_isRow := goodIn_r _ [5, 6, 7, 4, 8] (by decide +kernel) (by decide +kernel)
set_option maxRecDepth 20000 in
theorem gX3_take_X3_isRow : GoodIn wsX3_take (va_wsS RX3 52 yX3_isRow wsX3_isRow) := goodIn_app (goodIn_of _ (by decide +kernel)) ggX3_take_X3_isRow
set_option maxRecDepth 20000 in
theorem ggX3_take_X3_in : GoodIn wsX3_take wsX3_in := goodIn_r _ [8] (by decide +kernel) (by decide +kernel)
set_option maxRecDepth 20000 in
theorem gX3_take_X3_in : GoodIn wsX3_take (va_wsS RX3 40 yX3_in wsX3_in) := goodIn_app (goodIn_of _ (by decide +kernel)) ggX3_take_X3_in
set_option maxRecDepth 20000 in
theorem ggX3_take_X3_refuse : GoodIn wsX3_take wsX3_refuse := goodIn_r _ [12, 13, 29, 30, 31, 32, 33, 34, 35, 36, 37, 38, 39] (by decide +kernel) (by decide +kernel)
set_option maxRecDepth 20000 in
theorem gX3_take_X3_refuse : GoodIn wsX3_take (wsV RX3 71 RX3 yX3_refuse wsX3_refuse) := goodIn_app (goodIn_of _ (by decide +kernel)) ggX3_take_X3_refuse
set_option maxRecDepth 20000 in
theorem ggX3_take_X3_age : GoodIn wsX3_take wsX3_age := goodIn_r _ [17, 18, 19, 29, 30, 31, 32, 33, 34, 35, 36, 37, 38, 39] (by decide +kernel) (by decide +kernel)
set_option maxRecDepth 20000 in
theorem gX3_take_X3_age : GoodIn wsX3_take (wsV RX3 67 RX3 yX3_age wsX3_age) := goodIn_app (goodIn_of _ (by decide +kernel)) ggX3_take_X3_age
set_option maxRecDepth 20000 in
theorem ggX3_take_X3_close : GoodIn wsX3_take wsX3_close := goodIn_r _ [23, 1, 24, 25, 26, 27, 4, 28, 29, 30, 31, 32, 33, 34, 35, 36, 37, 38, 39] (by decide +kernel) (by decide +kernel)
set_option maxRecDepth 20000 in
theorem gX3_take_X3_close : GoodIn wsX3_take (wsV RX3 74 RX3 yX3_close wsX3_close) := goodIn_app (goodIn_of _ (by decide +kernel)) ggX3_take_X3_close
theorem dX3_take_0 : decode cX3_take 0 = .ok (.iload_n 1, 1) := by decide +kernel
theorem dX3_take_1 : decode cX3_take 1 = .ok (.invokestatic 52, 3) := by decide +kernel
theorem dX3_take_4 : decode cX3_take 4 = .ok (.ifCond .eq 20, 3) := by decide +kernel
theorem dX3_take_7 : decode cX3_take 7 = .ok (.iload_n 3, 1) := by decide +kernel
theorem dX3_take_8 : decode cX3_take 8 = .ok (.iconst 0, 1) := by decide +kernel
theorem dX3_take_9 : decode cX3_take 9 = .ok (.iload_n 2, 1) := by decide +kernel
theorem dX3_take_10 : decode cX3_take 10 = .ok (.ifCond .eq 7, 3) := by decide +kernel
theorem dX3_take_13 : decode cX3_take 13 = .ok (.iconst 1, 1) := by decide +kernel
theorem dX3_take_14 : decode cX3_take 14 = .ok (.goto 4, 3) := by decide +kernel
theorem dX3_take_17 : decode cX3_take 17 = .ok (.iconst 4, 1) := by decide +kernel
theorem dX3_take_18 : decode cX3_take 18 = .ok (.invokestatic 40, 3) := by decide +kernel
theorem dX3_take_21 : decode cX3_take 21 = .ok (.ifCond .ne 5, 3) := by decide +kernel
theorem dX3_take_24 : decode cX3_take 24 = .ok (.iconst (-1), 1) := by decide +kernel
theorem dX3_take_25 : decode cX3_take 25 = .ok (.ireturn, 1) := by decide +kernel
theorem dX3_take_26 : decode cX3_take 26 = .ok (.aload_n 0, 1) := by decide +kernel
theorem dX3_take_27 : decode cX3_take 27 = .ok (.getfield 13, 3) := by decide +kernel
theorem dX3_take_30 : decode cX3_take 30 = .ok (.iload_n 1, 1) := by decide +kernel
theorem dX3_take_31 : decode cX3_take 31 = .ok (.iaload, 1) := by decide +kernel
theorem dX3_take_32 : decode cX3_take 32 = .ok (.ifCond .ne 22, 3) := by decide +kernel
theorem dX3_take_35 : decode cX3_take 35 = .ok (.iload_n 3, 1) := by decide +kernel
theorem dX3_take_36 : decode cX3_take 36 = .ok (.iconst 2, 1) := by decide +kernel
theorem dX3_take_37 : decode cX3_take 37 = .ok (.irem, 1) := by decide +kernel
theorem dX3_take_38 : decode cX3_take 38 = .ok (.ifCond .ne 13, 3) := by decide +kernel
theorem dX3_take_41 : decode cX3_take 41 = .ok (.aload_n 0, 1) := by decide +kernel
theorem dX3_take_42 : decode cX3_take 42 = .ok (.iconst 0, 1) := by decide +kernel
theorem dX3_take_43 : decode cX3_take 43 = .ok (.bipush (-6), 2) := by decide +kernel
theorem dX3_take_45 : decode cX3_take 45 = .ok (.invokevirtual 71, 3) := by decide +kernel
theorem dX3_take_48 : decode cX3_take 48 = .ok (.goto 5, 3) := by decide +kernel
theorem dX3_take_51 : decode cX3_take 51 = .ok (.bipush (-6), 2) := by decide +kernel
theorem dX3_take_53 : decode cX3_take 53 = .ok (.ireturn, 1) := by decide +kernel
theorem dX3_take_54 : decode cX3_take 54 = .ok (.aload_n 0, 1) := by decide +kernel
theorem dX3_take_55 : decode cX3_take 55 = .ok (.iload_n 1, 1) := by decide +kernel
theorem dX3_take_56 : decode cX3_take 56 = .ok (.iconst (-1), 1) := by decide +kernel
theorem dX3_take_57 : decode cX3_take 57 = .ok (.invokevirtual 67, 3) := by decide +kernel
theorem dX3_take_60 : decode cX3_take 60 = .ok (.aload_n 0, 1) := by decide +kernel
theorem dX3_take_61 : decode cX3_take 61 = .ok (.iload_n 1, 1) := by decide +kernel
theorem dX3_take_62 : decode cX3_take 62 = .ok (.iload_n 2, 1) := by decide +kernel
theorem dX3_take_63 : decode cX3_take 63 = .ok (.ifCond .eq 14, 3) := by decide +kernel
theorem dX3_take_66 : decode cX3_take 66 = .ok (.aload_n 0, 1) := by decide +kernel
theorem dX3_take_67 : decode cX3_take 67 = .ok (.getfield 13, 3) := by decide +kernel
theorem dX3_take_70 : decode cX3_take 70 = .ok (.iload_n 1, 1) := by decide +kernel
theorem dX3_take_71 : decode cX3_take 71 = .ok (.iaload, 1) := by decide +kernel
theorem dX3_take_72 : decode cX3_take 72 = .ok (.iconst 1, 1) := by decide +kernel
theorem dX3_take_73 : decode cX3_take 73 = .ok (.isub, 1) := by decide +kernel
theorem dX3_take_74 : decode cX3_take 74 = .ok (.goto 4, 3) := by decide +kernel
theorem dX3_take_77 : decode cX3_take 77 = .ok (.iconst 0, 1) := by decide +kernel
theorem dX3_take_78 : decode cX3_take 78 = .ok (.invokevirtual 74, 3) := by decide +kernel
theorem dX3_take_81 : decode cX3_take 81 = .ok (.ireturn, 1) := by decide +kernel
set_option maxRecDepth 20000 in
theorem ggX3_at_X3_isRow : GoodIn wsX3_at wsX3_isRow := goodIn_r _ [5, 6, 7, 4, 8] (by decide +kernel) (by decide +kernel)
set_option maxRecDepth 20000 in
theorem gX3_at_X3_isRow : GoodIn wsX3_at (va_wsS RX3 52 yX3_isRow wsX3_isRow) := goodIn_app (goodIn_of _ (by decide +kernel)) ggX3_at_X3_isRow
set_option maxRecDepth 20000 in
theorem ggX3_at_X3_in : GoodIn wsX3_at wsX3_in := goodIn_r _ [8] (by decide +kernel) (by decide +kernel)
set_option maxRecDepth 20000 in
theorem gX3_at_X3_in : GoodIn wsX3_at (va_wsS RX3 40 yX3_in wsX3_in) := goodIn_app (goodIn_of _ (by decide +kernel)) ggX3_at_X3_in
set_option maxRecDepth 20000 in
theorem ggX3_at_X3_thing : GoodIn wsX3_at wsX3_thing := goodIn_r _ [12, 13, 19, 20, 21, 22, 23, 24, 25, 26, 27, 28, 29] (by decide +kernel) (by decide +kernel)
set_option maxRecDepth 20000 in
theorem gX3_at_X3_thing : GoodIn wsX3_at (wsV RX3 48 RX3 yX3_thing wsX3_thing) := goodIn_app (goodIn_of _ (by decide +kernel)) ggX3_at_X3_thing
set_option maxRecDepth 20000 in
theorem ggX3_at_X3_refuse : GoodIn wsX3_at wsX3_refuse := goodIn_r _ [17, 18, 19, 20, 21, 22, 23, 24, 25, 26, 27, 28, 29] (by decide +kernel) (by decide +kernel)
set_option maxRecDepth 20000 in
theorem gX3_at_X3_refuse : GoodIn wsX3_at (wsV RX3 71 RX3 yX3_refuse wsX3_refuse) := goodIn_app (goodIn_of _ (by decide +kernel)) ggX3_at_X3_refuse
theorem dX3_at_0 : decode cX3_at 0 = .ok (.iload_n 1, 1) := by decide +kernel
theorem dX3_at_1 : decode cX3_at 1 = .ok (.invokestatic 52, 3) := by decide +kernel
theorem dX3_at_4 : decode cX3_at 4 = .ok (.ifCond .ne 5, 3) := by decide +kernel
theorem dX3_at_7 : decode cX3_at 7 = .ok (.iconst (-1), 1) := by decide +kernel
theorem dX3_at_8 : decode cX3_at 8 = .ok (.ireturn, 1) := by decide +kernel
theorem dX3_at_9 : decode cX3_at 9 = .ok (.iload_n 2, 1) := by decide +kernel
theorem dX3_at_10 : decode cX3_at 10 = .ok (.iconst 0, 1) := by decide +kernel
theorem dX3_at_11 : decode cX3_at 11 = .ok (.aload_n 0, 1) := by decide +kernel
theorem dX3_at_12 : decode cX3_at 12 = .ok (.getfield 13, 3) := by decide +kernel
theorem dX3_at_15 : decode cX3_at 15 = .ok (.iload_n 1, 1) := by decide +kernel
theorem dX3_at_16 : decode cX3_at 16 = .ok (.iaload, 1) := by decide +kernel
theorem dX3_at_17 : decode cX3_at 17 = .ok (.iconst 1, 1) := by decide +kernel
theorem dX3_at_18 : decode cX3_at 18 = .ok (.isub, 1) := by decide +kernel
theorem dX3_at_19 : decode cX3_at 19 = .ok (.invokestatic 40, 3) := by decide +kernel
theorem dX3_at_22 : decode cX3_at 22 = .ok (.ifCond .eq 12, 3) := by decide +kernel
theorem dX3_at_25 : decode cX3_at 25 = .ok (.aload_n 0, 1) := by decide +kernel
theorem dX3_at_26 : decode cX3_at 26 = .ok (.iload_n 1, 1) := by decide +kernel
theorem dX3_at_27 : decode cX3_at 27 = .ok (.iload_n 2, 1) := by decide +kernel
theorem dX3_at_28 : decode cX3_at 28 = .ok (.invokevirtual 48, 3) := by decide +kernel
theorem dX3_at_31 : decode cX3_at 31 = .ok (.goto 10, 3) := by decide +kernel
theorem dX3_at_34 : decode cX3_at 34 = .ok (.aload_n 0, 1) := by decide +kernel
theorem dX3_at_35 : decode cX3_at 35 = .ok (.iconst 1, 1) := by decide +kernel
theorem dX3_at_36 : decode cX3_at 36 = .ok (.bipush (-5), 2) := by decide +kernel
theorem dX3_at_38 : decode cX3_at 38 = .ok (.invokevirtual 71, 3) := by decide +kernel
theorem dX3_at_41 : decode cX3_at 41 = .ok (.ireturn, 1) := by decide +kernel
set_option maxRecDepth 20000 in
theorem ggX3_lay_X3_isRow : GoodIn wsX3_lay wsX3_isRow := goodIn_r _ [6, 7, 8, 5, 9] (by decide +kernel) (by decide +kernel)
set_option maxRecDepth 20000 in
theorem gX3_lay_X3_isRow : GoodIn wsX3_lay (va_wsS RX3 52 yX3_isRow wsX3_isRow) := goodIn_app (goodIn_of _ (by decide +kernel)) ggX3_lay_X3_isRow
set_option maxRecDepth 20000 in
theorem ggX3_lay_X3_isName : GoodIn wsX3_lay wsX3_isName := goodIn_r _ [12, 7, 8, 5, 9] (by decide +kernel) (by decide +kernel)
set_option maxRecDepth 20000 in
theorem gX3_lay_X3_isName : GoodIn wsX3_lay (va_wsS RX3 56 yX3_isName wsX3_isName) := goodIn_app (goodIn_of _ (by decide +kernel)) ggX3_lay_X3_isName
set_option maxRecDepth 20000 in
theorem ggX3_lay_X3_in : GoodIn wsX3_lay wsX3_in := goodIn_r _ [9] (by decide +kernel) (by decide +kernel)
set_option maxRecDepth 20000 in
theorem gX3_lay_X3_in : GoodIn wsX3_lay (va_wsS RX3 40 yX3_in wsX3_in) := goodIn_app (goodIn_of _ (by decide +kernel)) ggX3_lay_X3_in
set_option maxRecDepth 20000 in
theorem ggX3_lay_X3_refuse : GoodIn wsX3_lay wsX3_refuse := goodIn_r _ [16, 17, 27, 28, 29, 30, 31, 32, 33, 34, 35, 36, 37] (by decide +kernel) (by decide +kernel)
set_option maxRecDepth 20000 in
theorem gX3_lay_X3_refuse : GoodIn wsX3_lay (wsV RX3 71 RX3 yX3_refuse wsX3_refuse) := goodIn_app (goodIn_of _ (by decide +kernel)) ggX3_lay_X3_refuse
set_option maxRecDepth 20000 in
theorem ggX3_lay_X3_thing : GoodIn wsX3_lay wsX3_thing := goodIn_r _ [21, 2, 27, 28, 29, 30, 31, 32, 33, 34, 35, 36, 37] (by decide +kernel) (by decide +kernel)
set_option maxRecDepth 20000 in
theorem gX3_lay_X3_thing : GoodIn wsX3_lay (wsV RX3 48 RX3 yX3_thing wsX3_thing) := goodIn_app (goodIn_of _ (by decide +kernel)) ggX3_lay_X3_thing
set_option maxRecDepth 20000 in
theorem ggX3_lay_X3_make : GoodIn wsX3_lay wsX3_make := goodIn_r _ [25, 26, 27, 28, 29, 30, 31, 32, 33, 34, 35, 36, 37] (by decide +kernel) (by decide +kernel)
set_option maxRecDepth 20000 in
theorem gX3_lay_X3_make : GoodIn wsX3_lay (wsV RX3 59 RX3 yX3_make wsX3_make) := goodIn_app (goodIn_of _ (by decide +kernel)) ggX3_lay_X3_make
theorem dX3_lay_0 : decode cX3_lay 0 = .ok (.iload_n 1, 1) := by decide +kernel
theorem dX3_lay_1 : decode cX3_lay 1 = .ok (.invokestatic 52, 3) := by decide +kernel
theorem dX3_lay_4 : decode cX3_lay 4 = .ok (.ifCond .eq 10, 3) := by decide +kernel
theorem dX3_lay_7 : decode cX3_lay 7 = .ok (.iload_n 3, 1) := by decide +kernel
theorem dX3_lay_8 : decode cX3_lay 8 = .ok (.invokestatic 56, 3) := by decide +kernel
theorem dX3_lay_11 : decode cX3_lay 11 = .ok (.ifCond .ne 5, 3) := by decide +kernel
theorem dX3_lay_14 : decode cX3_lay 14 = .ok (.iconst (-1), 1) := by decide +kernel
theorem dX3_lay_15 : decode cX3_lay 15 = .ok (.ireturn, 1) := by decide +kernel
theorem dX3_lay_16 : decode cX3_lay 16 = .ok (.iload_n 2, 1) := by decide +kernel
theorem dX3_lay_17 : decode cX3_lay 17 = .ok (.iconst 0, 1) := by decide +kernel
theorem dX3_lay_18 : decode cX3_lay 18 = .ok (.aload_n 0, 1) := by decide +kernel
theorem dX3_lay_19 : decode cX3_lay 19 = .ok (.getfield 13, 3) := by decide +kernel
theorem dX3_lay_22 : decode cX3_lay 22 = .ok (.iload_n 1, 1) := by decide +kernel
theorem dX3_lay_23 : decode cX3_lay 23 = .ok (.iaload, 1) := by decide +kernel
theorem dX3_lay_24 : decode cX3_lay 24 = .ok (.iconst 1, 1) := by decide +kernel
theorem dX3_lay_25 : decode cX3_lay 25 = .ok (.isub, 1) := by decide +kernel
theorem dX3_lay_26 : decode cX3_lay 26 = .ok (.invokestatic 40, 3) := by decide +kernel
theorem dX3_lay_29 : decode cX3_lay 29 = .ok (.ifCond .ne 11, 3) := by decide +kernel
theorem dX3_lay_32 : decode cX3_lay 32 = .ok (.aload_n 0, 1) := by decide +kernel
theorem dX3_lay_33 : decode cX3_lay 33 = .ok (.iconst 1, 1) := by decide +kernel
theorem dX3_lay_34 : decode cX3_lay 34 = .ok (.bipush (-5), 2) := by decide +kernel
theorem dX3_lay_36 : decode cX3_lay 36 = .ok (.invokevirtual 71, 3) := by decide +kernel
theorem dX3_lay_39 : decode cX3_lay 39 = .ok (.ireturn, 1) := by decide +kernel
theorem dX3_lay_40 : decode cX3_lay 40 = .ok (.aload_n 0, 1) := by decide +kernel
theorem dX3_lay_41 : decode cX3_lay 41 = .ok (.iload_n 1, 1) := by decide +kernel
theorem dX3_lay_42 : decode cX3_lay 42 = .ok (.iload_n 2, 1) := by decide +kernel
theorem dX3_lay_43 : decode cX3_lay 43 = .ok (.invokevirtual 48, 3) := by decide +kernel
theorem dX3_lay_46 : decode cX3_lay 46 = .ok (.istore 4, 2) := by decide +kernel
theorem dX3_lay_48 : decode cX3_lay 48 = .ok (.aload_n 0, 1) := by decide +kernel
theorem dX3_lay_49 : decode cX3_lay 49 = .ok (.getfield 7, 3) := by decide +kernel
theorem dX3_lay_52 : decode cX3_lay 52 = .ok (.bipush 64, 2) := by decide +kernel
theorem dX3_lay_54 : decode cX3_lay 54 = .ok (.iload_n 1, 1) := by decide +kernel
theorem dX3_lay_55 : decode cX3_lay 55 = .ok (.imul, 1) := by decide +kernel
theorem dX3_lay_56 : decode cX3_lay 56 = .ok (.iload_n 2, 1) := by decide +kernel
theorem dX3_lay_57 : decode cX3_lay 57 = .ok (.iadd, 1) := by decide +kernel
theorem dX3_lay_58 : decode cX3_lay 58 = .ok (.aload_n 0, 1) := by decide +kernel
theorem dX3_lay_59 : decode cX3_lay 59 = .ok (.iload_n 3, 1) := by decide +kernel
theorem dX3_lay_60 : decode cX3_lay 60 = .ok (.invokevirtual 59, 3) := by decide +kernel
theorem dX3_lay_63 : decode cX3_lay 63 = .ok (.iastore, 1) := by decide +kernel
theorem dX3_lay_64 : decode cX3_lay 64 = .ok (.iload 4, 2) := by decide +kernel
theorem dX3_lay_66 : decode cX3_lay 66 = .ok (.ireturn, 1) := by decide +kernel
set_option maxRecDepth 20000 in
theorem ggX3_insert_X3_isRow : GoodIn wsX3_insert wsX3_isRow := goodIn_r _ [5, 6, 7, 4, 8] (by decide +kernel) (by decide +kernel)
set_option maxRecDepth 20000 in
theorem gX3_insert_X3_isRow : GoodIn wsX3_insert (va_wsS RX3 52 yX3_isRow wsX3_isRow) := goodIn_app (goodIn_of _ (by decide +kernel)) ggX3_insert_X3_isRow
set_option maxRecDepth 20000 in
theorem ggX3_insert_X3_isName : GoodIn wsX3_insert wsX3_isName := goodIn_r _ [11, 6, 7, 4, 8] (by decide +kernel) (by decide +kernel)
set_option maxRecDepth 20000 in
theorem gX3_insert_X3_isName : GoodIn wsX3_insert (va_wsS RX3 56 yX3_isName wsX3_isName) := goodIn_app (goodIn_of _ (by decide +kernel)) ggX3_insert_X3_isName
set_option maxRecDepth 20000 in
theorem ggX3_insert_X3_in : GoodIn wsX3_insert wsX3_in := goodIn_r _ [8] (by decide +kernel) (by decide +kernel)
set_option maxRecDepth 20000 in
theorem gX3_insert_X3_in : GoodIn wsX3_insert (va_wsS RX3 40 yX3_in wsX3_in) := goodIn_app (goodIn_of _ (by decide +kernel)) ggX3_insert_X3_in
set_option maxRecDepth 20000 in
theorem ggX3_insert_X3_refuse : GoodIn wsX3_insert wsX3_refuse := goodIn_r _ [15, 16, 37, 38, 39, 40, 41, 42, 43, 44, 45, 46, 47] (by decide +kernel) (by decide +kernel)
set_option maxRecDepth 20000 in
theorem gX3_insert_X3_refuse : GoodIn wsX3_insert (wsV RX3 71 RX3 yX3_refuse wsX3_refuse) := goodIn_app (goodIn_of _ (by decide +kernel)) ggX3_insert_X3_refuse
set_option maxRecDepth 20000 in
theorem ggX3_insert_X3_make : GoodIn wsX3_insert wsX3_make := goodIn_r _ [20, 21, 37, 38, 39, 40, 41, 42, 43, 44, 45, 46, 47] (by decide +kernel) (by decide +kernel)
set_option maxRecDepth 20000 in
theorem gX3_insert_X3_make : GoodIn wsX3_insert (wsV RX3 59 RX3 yX3_make wsX3_make) := goodIn_app (goodIn_of _ (by decide +kernel)) ggX3_insert_X3_make
set_option maxRecDepth 20000 in
theorem ggX3_insert_X3_open : GoodIn wsX3_insert wsX3_open := goodIn_r _ [25, 1, 26, 27, 28, 29, 4, 30, 37, 38, 39, 40, 41, 42, 43, 44, 45, 46, 47] (by decide +kernel) (by decide +kernel)
set_option maxRecDepth 20000 in
theorem gX3_insert_X3_open : GoodIn wsX3_insert (wsV RX3 63 RX3 yX3_open wsX3_open) := goodIn_app (goodIn_of _ (by decide +kernel)) ggX3_insert_X3_open
set_option maxRecDepth 20000 in
theorem ggX3_insert_X3_age : GoodIn wsX3_insert wsX3_age := goodIn_r _ [34, 35, 36, 37, 38, 39, 40, 41, 42, 43, 44, 45, 46, 47] (by decide +kernel) (by decide +kernel)
set_option maxRecDepth 20000 in
theorem gX3_insert_X3_age : GoodIn wsX3_insert (wsV RX3 67 RX3 yX3_age wsX3_age) := goodIn_app (goodIn_of _ (by decide +kernel)) ggX3_insert_X3_age
theorem dX3_insert_0 : decode cX3_insert 0 = .ok (.iload_n 1, 1) := by decide +kernel
theorem dX3_insert_1 : decode cX3_insert 1 = .ok (.invokestatic 52, 3) := by decide +kernel
theorem dX3_insert_4 : decode cX3_insert 4 = .ok (.ifCond .eq 10, 3) := by decide +kernel
theorem dX3_insert_7 : decode cX3_insert 7 = .ok (.iload_n 3, 1) := by decide +kernel
theorem dX3_insert_8 : decode cX3_insert 8 = .ok (.invokestatic 56, 3) := by decide +kernel
theorem dX3_insert_11 : decode cX3_insert 11 = .ok (.ifCond .ne 5, 3) := by decide +kernel
theorem dX3_insert_14 : decode cX3_insert 14 = .ok (.iconst (-1), 1) := by decide +kernel
theorem dX3_insert_15 : decode cX3_insert 15 = .ok (.ireturn, 1) := by decide +kernel
theorem dX3_insert_16 : decode cX3_insert 16 = .ok (.aload_n 0, 1) := by decide +kernel
theorem dX3_insert_17 : decode cX3_insert 17 = .ok (.getfield 13, 3) := by decide +kernel
theorem dX3_insert_20 : decode cX3_insert 20 = .ok (.iload_n 1, 1) := by decide +kernel
theorem dX3_insert_21 : decode cX3_insert 21 = .ok (.iaload, 1) := by decide +kernel
theorem dX3_insert_22 : decode cX3_insert 22 = .ok (.bipush 60, 2) := by decide +kernel
theorem dX3_insert_24 : decode cX3_insert 24 = .ok (.if_icmp .ne 6, 3) := by decide +kernel
theorem dX3_insert_27 : decode cX3_insert 27 = .ok (.bipush (-3), 2) := by decide +kernel
theorem dX3_insert_29 : decode cX3_insert 29 = .ok (.ireturn, 1) := by decide +kernel
theorem dX3_insert_30 : decode cX3_insert 30 = .ok (.iload_n 2, 1) := by decide +kernel
theorem dX3_insert_31 : decode cX3_insert 31 = .ok (.iconst 0, 1) := by decide +kernel
theorem dX3_insert_32 : decode cX3_insert 32 = .ok (.aload_n 0, 1) := by decide +kernel
theorem dX3_insert_33 : decode cX3_insert 33 = .ok (.getfield 13, 3) := by decide +kernel
theorem dX3_insert_36 : decode cX3_insert 36 = .ok (.iload_n 1, 1) := by decide +kernel
theorem dX3_insert_37 : decode cX3_insert 37 = .ok (.iaload, 1) := by decide +kernel
theorem dX3_insert_38 : decode cX3_insert 38 = .ok (.invokestatic 40, 3) := by decide +kernel
theorem dX3_insert_41 : decode cX3_insert 41 = .ok (.ifCond .ne 11, 3) := by decide +kernel
theorem dX3_insert_44 : decode cX3_insert 44 = .ok (.aload_n 0, 1) := by decide +kernel
theorem dX3_insert_45 : decode cX3_insert 45 = .ok (.iconst 1, 1) := by decide +kernel
theorem dX3_insert_46 : decode cX3_insert 46 = .ok (.bipush (-5), 2) := by decide +kernel
theorem dX3_insert_48 : decode cX3_insert 48 = .ok (.invokevirtual 71, 3) := by decide +kernel
theorem dX3_insert_51 : decode cX3_insert 51 = .ok (.ireturn, 1) := by decide +kernel
theorem dX3_insert_52 : decode cX3_insert 52 = .ok (.aload_n 0, 1) := by decide +kernel
theorem dX3_insert_53 : decode cX3_insert 53 = .ok (.iload_n 1, 1) := by decide +kernel
theorem dX3_insert_54 : decode cX3_insert 54 = .ok (.iload_n 2, 1) := by decide +kernel
theorem dX3_insert_55 : decode cX3_insert 55 = .ok (.aload_n 0, 1) := by decide +kernel
theorem dX3_insert_56 : decode cX3_insert 56 = .ok (.iload_n 3, 1) := by decide +kernel
theorem dX3_insert_57 : decode cX3_insert 57 = .ok (.invokevirtual 59, 3) := by decide +kernel
theorem dX3_insert_60 : decode cX3_insert 60 = .ok (.invokevirtual 63, 3) := by decide +kernel
theorem dX3_insert_63 : decode cX3_insert 63 = .ok (.aload_n 0, 1) := by decide +kernel
theorem dX3_insert_64 : decode cX3_insert 64 = .ok (.iload_n 1, 1) := by decide +kernel
theorem dX3_insert_65 : decode cX3_insert 65 = .ok (.iconst (-1), 1) := by decide +kernel
theorem dX3_insert_66 : decode cX3_insert 66 = .ok (.invokevirtual 67, 3) := by decide +kernel
theorem dX3_insert_69 : decode cX3_insert 69 = .ok (.aload_n 0, 1) := by decide +kernel
theorem dX3_insert_70 : decode cX3_insert 70 = .ok (.getfield 13, 3) := by decide +kernel
theorem dX3_insert_73 : decode cX3_insert 73 = .ok (.iload_n 1, 1) := by decide +kernel
theorem dX3_insert_74 : decode cX3_insert 74 = .ok (.iaload, 1) := by decide +kernel
theorem dX3_insert_75 : decode cX3_insert 75 = .ok (.ireturn, 1) := by decide +kernel
set_option maxRecDepth 20000 in
theorem ggX3_drop_X3_isRow : GoodIn wsX3_drop wsX3_isRow := goodIn_r _ [5, 6, 7, 4, 8] (by decide +kernel) (by decide +kernel)
set_option maxRecDepth 20000 in
theorem gX3_drop_X3_isRow : GoodIn wsX3_drop (va_wsS RX3 52 yX3_isRow wsX3_isRow) := goodIn_app (goodIn_of _ (by decide +kernel)) ggX3_drop_X3_isRow
set_option maxRecDepth 20000 in
theorem ggX3_drop_X3_in : GoodIn wsX3_drop wsX3_in := goodIn_r _ [8] (by decide +kernel) (by decide +kernel)
set_option maxRecDepth 20000 in
theorem gX3_drop_X3_in : GoodIn wsX3_drop (va_wsS RX3 40 yX3_in wsX3_in) := goodIn_app (goodIn_of _ (by decide +kernel)) ggX3_drop_X3_in
set_option maxRecDepth 20000 in
theorem ggX3_drop_X3_refuse : GoodIn wsX3_drop wsX3_refuse := goodIn_r _ [12, 13, 29, 30, 31, 32, 33, 34, 35, 36, 37, 38, 39] (by decide +kernel) (by decide +kernel)
set_option maxRecDepth 20000 in
theorem gX3_drop_X3_refuse : GoodIn wsX3_drop (wsV RX3 71 RX3 yX3_refuse wsX3_refuse) := goodIn_app (goodIn_of _ (by decide +kernel)) ggX3_drop_X3_refuse
set_option maxRecDepth 20000 in
theorem ggX3_drop_X3_age : GoodIn wsX3_drop wsX3_age := goodIn_r _ [17, 18, 19, 29, 30, 31, 32, 33, 34, 35, 36, 37, 38, 39] (by decide +kernel) (by decide +kernel)
set_option maxRecDepth 20000 in
theorem gX3_drop_X3_age : GoodIn wsX3_drop (wsV RX3 67 RX3 yX3_age wsX3_age) := goodIn_app (goodIn_of _ (by decide +kernel)) ggX3_drop_X3_age
set_option maxRecDepth 20000 in
theorem ggX3_drop_X3_close : GoodIn wsX3_drop wsX3_close := goodIn_r _ [23, 1, 24, 25, 26, 27, 4, 28, 29, 30, 31, 32, 33, 34, 35, 36, 37, 38, 39] (by decide +kernel) (by decide +kernel)
set_option maxRecDepth 20000 in
theorem gX3_drop_X3_close : GoodIn wsX3_drop (wsV RX3 74 RX3 yX3_close wsX3_close) := goodIn_app (goodIn_of _ (by decide +kernel)) ggX3_drop_X3_close
theorem dX3_drop_0 : decode cX3_drop 0 = .ok (.iload_n 1, 1) := by decide +kernel
theorem dX3_drop_1 : decode cX3_drop 1 = .ok (.invokestatic 52, 3) := by decide +kernel
theorem dX3_drop_4 : decode cX3_drop 4 = .ok (.ifCond .ne 5, 3) := by decide +kernel
theorem dX3_drop_7 : decode cX3_drop 7 = .ok (.iconst (-1), 1) := by decide +kernel
theorem dX3_drop_8 : decode cX3_drop 8 = .ok (.ireturn, 1) := by decide +kernel
theorem dX3_drop_9 : decode cX3_drop 9 = .ok (.iload_n 2, 1) := by decide +kernel
theorem dX3_drop_10 : decode cX3_drop 10 = .ok (.iconst 0, 1) := by decide +kernel
theorem dX3_drop_11 : decode cX3_drop 11 = .ok (.aload_n 0, 1) := by decide +kernel
theorem dX3_drop_12 : decode cX3_drop 12 = .ok (.getfield 13, 3) := by decide +kernel
theorem dX3_drop_15 : decode cX3_drop 15 = .ok (.iload_n 1, 1) := by decide +kernel
theorem dX3_drop_16 : decode cX3_drop 16 = .ok (.iaload, 1) := by decide +kernel
theorem dX3_drop_17 : decode cX3_drop 17 = .ok (.iconst 1, 1) := by decide +kernel
theorem dX3_drop_18 : decode cX3_drop 18 = .ok (.isub, 1) := by decide +kernel
theorem dX3_drop_19 : decode cX3_drop 19 = .ok (.invokestatic 40, 3) := by decide +kernel
theorem dX3_drop_22 : decode cX3_drop 22 = .ok (.ifCond .ne 11, 3) := by decide +kernel
theorem dX3_drop_25 : decode cX3_drop 25 = .ok (.aload_n 0, 1) := by decide +kernel
theorem dX3_drop_26 : decode cX3_drop 26 = .ok (.iconst 1, 1) := by decide +kernel
theorem dX3_drop_27 : decode cX3_drop 27 = .ok (.bipush (-5), 2) := by decide +kernel
theorem dX3_drop_29 : decode cX3_drop 29 = .ok (.invokevirtual 71, 3) := by decide +kernel
theorem dX3_drop_32 : decode cX3_drop 32 = .ok (.ireturn, 1) := by decide +kernel
theorem dX3_drop_33 : decode cX3_drop 33 = .ok (.aload_n 0, 1) := by decide +kernel
theorem dX3_drop_34 : decode cX3_drop 34 = .ok (.iload_n 1, 1) := by decide +kernel
theorem dX3_drop_35 : decode cX3_drop 35 = .ok (.iconst (-1), 1) := by decide +kernel
theorem dX3_drop_36 : decode cX3_drop 36 = .ok (.invokevirtual 67, 3) := by decide +kernel
theorem dX3_drop_39 : decode cX3_drop 39 = .ok (.aload_n 0, 1) := by decide +kernel
theorem dX3_drop_40 : decode cX3_drop 40 = .ok (.iload_n 1, 1) := by decide +kernel
theorem dX3_drop_41 : decode cX3_drop 41 = .ok (.iload_n 2, 1) := by decide +kernel
theorem dX3_drop_42 : decode cX3_drop 42 = .ok (.invokevirtual 74, 3) := by decide +kernel
theorem dX3_drop_45 : decode cX3_drop 45 = .ok (.ireturn, 1) := by decide +kernel
set_option maxRecDepth 20000 in
theorem ggX3_find_X3_isRow : GoodIn wsX3_find wsX3_isRow := goodIn_r _ [4, 5, 6, 3, 7] (by decide +kernel) (by decide +kernel)
set_option maxRecDepth 20000 in
theorem gX3_find_X3_isRow : GoodIn wsX3_find (va_wsS RX3 52 yX3_isRow wsX3_isRow) := goodIn_app (goodIn_of _ (by decide +kernel)) ggX3_find_X3_isRow
set_option maxRecDepth 20000 in
theorem ggX3_find_X3_isName : GoodIn wsX3_find wsX3_isName := goodIn_r _ [10, 5, 6, 3, 7] (by decide +kernel) (by decide +kernel)
set_option maxRecDepth 20000 in
theorem gX3_find_X3_isName : GoodIn wsX3_find (va_wsS RX3 56 yX3_isName wsX3_isName) := goodIn_app (goodIn_of _ (by decide +kernel)) ggX3_find_X3_isName
set_option maxRecDepth 20000 in
theorem ggX3_find_X3_placeBy : GoodIn wsX3_find wsX3_placeBy := goodIn_r _ [14, 15, 16, 17, 18, 3, 19, 20, 21, 22, 23, 24, 25, 26, 27, 28, 29, 30, 31] (by decide +kernel) (by decide +kernel)
set_option maxRecDepth 20000 in
theorem gX3_find_X3_placeBy : GoodIn wsX3_find (wsV RX3 77 RX3 yX3_placeBy wsX3_placeBy) := goodIn_app (goodIn_of _ (by decide +kernel)) ggX3_find_X3_placeBy
theorem dX3_find_0 : decode cX3_find 0 = .ok (.iload_n 1, 1) := by decide +kernel
theorem dX3_find_1 : decode cX3_find 1 = .ok (.invokestatic 52, 3) := by decide +kernel
theorem dX3_find_4 : decode cX3_find 4 = .ok (.ifCond .eq 10, 3) := by decide +kernel
theorem dX3_find_7 : decode cX3_find 7 = .ok (.iload_n 2, 1) := by decide +kernel
theorem dX3_find_8 : decode cX3_find 8 = .ok (.invokestatic 56, 3) := by decide +kernel
theorem dX3_find_11 : decode cX3_find 11 = .ok (.ifCond .ne 5, 3) := by decide +kernel
theorem dX3_find_14 : decode cX3_find 14 = .ok (.iconst (-1), 1) := by decide +kernel
theorem dX3_find_15 : decode cX3_find 15 = .ok (.ireturn, 1) := by decide +kernel
theorem dX3_find_16 : decode cX3_find 16 = .ok (.aload_n 0, 1) := by decide +kernel
theorem dX3_find_17 : decode cX3_find 17 = .ok (.iload_n 1, 1) := by decide +kernel
theorem dX3_find_18 : decode cX3_find 18 = .ok (.iload_n 2, 1) := by decide +kernel
theorem dX3_find_19 : decode cX3_find 19 = .ok (.iload_n 3, 1) := by decide +kernel
theorem dX3_find_20 : decode cX3_find 20 = .ok (.invokevirtual 77, 3) := by decide +kernel
theorem dX3_find_23 : decode cX3_find 23 = .ok (.istore 4, 2) := by decide +kernel
theorem dX3_find_25 : decode cX3_find 25 = .ok (.iload 4, 2) := by decide +kernel
theorem dX3_find_27 : decode cX3_find 27 = .ok (.iconst (-1), 1) := by decide +kernel
theorem dX3_find_28 : decode cX3_find 28 = .ok (.if_icmp .ne 8, 3) := by decide +kernel
theorem dX3_find_31 : decode cX3_find 31 = .ok (.bipush (-6), 2) := by decide +kernel
theorem dX3_find_33 : decode cX3_find 33 = .ok (.goto 5, 3) := by decide +kernel
theorem dX3_find_36 : decode cX3_find 36 = .ok (.iload 4, 2) := by decide +kernel
theorem dX3_find_38 : decode cX3_find 38 = .ok (.ireturn, 1) := by decide +kernel
set_option maxRecDepth 20000 in
theorem ggX3_has_X3_isRow : GoodIn wsX3_has wsX3_isRow := goodIn_r _ [4, 5, 6, 3, 7] (by decide +kernel) (by decide +kernel)
set_option maxRecDepth 20000 in
theorem gX3_has_X3_isRow : GoodIn wsX3_has (va_wsS RX3 52 yX3_isRow wsX3_isRow) := goodIn_app (goodIn_of _ (by decide +kernel)) ggX3_has_X3_isRow
set_option maxRecDepth 20000 in
theorem ggX3_has_X3_isName : GoodIn wsX3_has wsX3_isName := goodIn_r _ [10, 5, 6, 3, 7] (by decide +kernel) (by decide +kernel)
set_option maxRecDepth 20000 in
theorem gX3_has_X3_isName : GoodIn wsX3_has (va_wsS RX3 56 yX3_isName wsX3_isName) := goodIn_app (goodIn_of _ (by decide +kernel)) ggX3_has_X3_isName
set_option maxRecDepth 20000 in
theorem ggX3_has_X3_placeBy : GoodIn wsX3_has wsX3_placeBy := goodIn_r _ [14, 15, 16, 17, 18, 3, 19, 20, 21, 22, 23, 24, 25, 26, 27, 28, 29, 30, 31] (by decide +kernel) (by decide +kernel)
set_option maxRecDepth 20000 in
theorem gX3_has_X3_placeBy : GoodIn wsX3_has (wsV RX3 77 RX3 yX3_placeBy wsX3_placeBy) := goodIn_app (goodIn_of _ (by decide +kernel)) ggX3_has_X3_placeBy
theorem dX3_has_0 : decode cX3_has 0 = .ok (.iload_n 1, 1) := by decide +kernel
theorem dX3_has_1 : decode cX3_has 1 = .ok (.invokestatic 52, 3) := by decide +kernel
theorem dX3_has_4 : decode cX3_has 4 = .ok (.ifCond .eq 10, 3) := by decide +kernel
theorem dX3_has_7 : decode cX3_has 7 = .ok (.iload_n 2, 1) := by decide +kernel
theorem dX3_has_8 : decode cX3_has 8 = .ok (.invokestatic 56, 3) := by decide +kernel
theorem dX3_has_11 : decode cX3_has 11 = .ok (.ifCond .ne 5, 3) := by decide +kernel
theorem dX3_has_14 : decode cX3_has 14 = .ok (.iconst (-1), 1) := by decide +kernel
theorem dX3_has_15 : decode cX3_has 15 = .ok (.ireturn, 1) := by decide +kernel
theorem dX3_has_16 : decode cX3_has 16 = .ok (.aload_n 0, 1) := by decide +kernel
theorem dX3_has_17 : decode cX3_has 17 = .ok (.iload_n 1, 1) := by decide +kernel
theorem dX3_has_18 : decode cX3_has 18 = .ok (.iload_n 2, 1) := by decide +kernel
theorem dX3_has_19 : decode cX3_has 19 = .ok (.iconst 0, 1) := by decide +kernel
theorem dX3_has_20 : decode cX3_has 20 = .ok (.invokevirtual 77, 3) := by decide +kernel
theorem dX3_has_23 : decode cX3_has 23 = .ok (.iconst (-1), 1) := by decide +kernel
theorem dX3_has_24 : decode cX3_has 24 = .ok (.if_icmp .ne 7, 3) := by decide +kernel
theorem dX3_has_27 : decode cX3_has 27 = .ok (.iconst 0, 1) := by decide +kernel
theorem dX3_has_28 : decode cX3_has 28 = .ok (.goto 4, 3) := by decide +kernel
theorem dX3_has_31 : decode cX3_has 31 = .ok (.iconst 1, 1) := by decide +kernel
theorem dX3_has_32 : decode cX3_has 32 = .ok (.ireturn, 1) := by decide +kernel
set_option maxRecDepth 20000 in
theorem ggX3_lose_X3_isRow : GoodIn wsX3_lose wsX3_isRow := goodIn_r _ [4, 5, 6, 3, 7] (by decide +kernel) (by decide +kernel)
set_option maxRecDepth 20000 in
theorem gX3_lose_X3_isRow : GoodIn wsX3_lose (va_wsS RX3 52 yX3_isRow wsX3_isRow) := goodIn_app (goodIn_of _ (by decide +kernel)) ggX3_lose_X3_isRow
set_option maxRecDepth 20000 in
theorem ggX3_lose_X3_isName : GoodIn wsX3_lose wsX3_isName := goodIn_r _ [10, 5, 6, 3, 7] (by decide +kernel) (by decide +kernel)
set_option maxRecDepth 20000 in
theorem gX3_lose_X3_isName : GoodIn wsX3_lose (va_wsS RX3 56 yX3_isName wsX3_isName) := goodIn_app (goodIn_of _ (by decide +kernel)) ggX3_lose_X3_isName
set_option maxRecDepth 20000 in
theorem ggX3_lose_X3_in : GoodIn wsX3_lose wsX3_in := goodIn_r _ [7] (by decide +kernel) (by decide +kernel)
set_option maxRecDepth 20000 in
theorem gX3_lose_X3_in : GoodIn wsX3_lose (va_wsS RX3 40 yX3_in wsX3_in) := goodIn_app (goodIn_of _ (by decide +kernel)) ggX3_lose_X3_in
set_option maxRecDepth 20000 in
theorem ggX3_lose_X3_placeBy : GoodIn wsX3_lose wsX3_placeBy := goodIn_r _ [14, 15, 16, 17, 18, 3, 19, 20, 31, 32, 33, 34, 35, 36, 37, 38, 39, 40, 41] (by decide +kernel) (by decide +kernel)
set_option maxRecDepth 20000 in
theorem gX3_lose_X3_placeBy : GoodIn wsX3_lose (wsV RX3 77 RX3 yX3_placeBy wsX3_placeBy) := goodIn_app (goodIn_of _ (by decide +kernel)) ggX3_lose_X3_placeBy
set_option maxRecDepth 20000 in
theorem ggX3_lose_X3_close : GoodIn wsX3_lose wsX3_close := goodIn_r _ [24, 15, 20, 16, 17, 18, 3, 19, 31, 32, 33, 34, 35, 36, 37, 38, 39, 40, 41] (by decide +kernel) (by decide +kernel)
set_option maxRecDepth 20000 in
theorem gX3_lose_X3_close : GoodIn wsX3_lose (wsV RX3 74 RX3 yX3_close wsX3_close) := goodIn_app (goodIn_of _ (by decide +kernel)) ggX3_lose_X3_close
set_option maxRecDepth 20000 in
theorem ggX3_lose_X3_age : GoodIn wsX3_lose wsX3_age := goodIn_r _ [28, 29, 30, 31, 32, 33, 34, 35, 36, 37, 38, 39, 40, 41] (by decide +kernel) (by decide +kernel)
set_option maxRecDepth 20000 in
theorem gX3_lose_X3_age : GoodIn wsX3_lose (wsV RX3 67 RX3 yX3_age wsX3_age) := goodIn_app (goodIn_of _ (by decide +kernel)) ggX3_lose_X3_age
theorem dX3_lose_0 : decode cX3_lose 0 = .ok (.iload_n 1, 1) := by decide +kernel
theorem dX3_lose_1 : decode cX3_lose 1 = .ok (.invokestatic 52, 3) := by decide +kernel
theorem dX3_lose_4 : decode cX3_lose 4 = .ok (.ifCond .eq 19, 3) := by decide +kernel
theorem dX3_lose_7 : decode cX3_lose 7 = .ok (.iload_n 2, 1) := by decide +kernel
theorem dX3_lose_8 : decode cX3_lose 8 = .ok (.invokestatic 56, 3) := by decide +kernel
theorem dX3_lose_11 : decode cX3_lose 11 = .ok (.ifCond .eq 12, 3) := by decide +kernel
theorem dX3_lose_14 : decode cX3_lose 14 = .ok (.iload_n 3, 1) := by decide +kernel
theorem dX3_lose_15 : decode cX3_lose 15 = .ok (.iconst 0, 1) := by decide +kernel
theorem dX3_lose_16 : decode cX3_lose 16 = .ok (.iconst 2, 1) := by decide +kernel
theorem dX3_lose_17 : decode cX3_lose 17 = .ok (.invokestatic 40, 3) := by decide +kernel
theorem dX3_lose_20 : decode cX3_lose 20 = .ok (.ifCond .ne 5, 3) := by decide +kernel
theorem dX3_lose_23 : decode cX3_lose 23 = .ok (.iconst (-1), 1) := by decide +kernel
theorem dX3_lose_24 : decode cX3_lose 24 = .ok (.ireturn, 1) := by decide +kernel
theorem dX3_lose_25 : decode cX3_lose 25 = .ok (.aload_n 0, 1) := by decide +kernel
theorem dX3_lose_26 : decode cX3_lose 26 = .ok (.iload_n 1, 1) := by decide +kernel
theorem dX3_lose_27 : decode cX3_lose 27 = .ok (.iload_n 2, 1) := by decide +kernel
theorem dX3_lose_28 : decode cX3_lose 28 = .ok (.iload_n 3, 1) := by decide +kernel
theorem dX3_lose_29 : decode cX3_lose 29 = .ok (.iconst 2, 1) := by decide +kernel
theorem dX3_lose_30 : decode cX3_lose 30 = .ok (.if_icmp .ne 7, 3) := by decide +kernel
theorem dX3_lose_33 : decode cX3_lose 33 = .ok (.iconst 1, 1) := by decide +kernel
theorem dX3_lose_34 : decode cX3_lose 34 = .ok (.goto 4, 3) := by decide +kernel
theorem dX3_lose_37 : decode cX3_lose 37 = .ok (.iconst 0, 1) := by decide +kernel
theorem dX3_lose_38 : decode cX3_lose 38 = .ok (.invokevirtual 77, 3) := by decide +kernel
theorem dX3_lose_41 : decode cX3_lose 41 = .ok (.istore 4, 2) := by decide +kernel
theorem dX3_lose_43 : decode cX3_lose 43 = .ok (.iload 4, 2) := by decide +kernel
theorem dX3_lose_45 : decode cX3_lose 45 = .ok (.iconst (-1), 1) := by decide +kernel
theorem dX3_lose_46 : decode cX3_lose 46 = .ok (.if_icmp .ne 5, 3) := by decide +kernel
theorem dX3_lose_49 : decode cX3_lose 49 = .ok (.iconst 0, 1) := by decide +kernel
theorem dX3_lose_50 : decode cX3_lose 50 = .ok (.ireturn, 1) := by decide +kernel
theorem dX3_lose_51 : decode cX3_lose 51 = .ok (.aload_n 0, 1) := by decide +kernel
theorem dX3_lose_52 : decode cX3_lose 52 = .ok (.iload_n 1, 1) := by decide +kernel
theorem dX3_lose_53 : decode cX3_lose 53 = .ok (.iload 4, 2) := by decide +kernel
theorem dX3_lose_55 : decode cX3_lose 55 = .ok (.invokevirtual 74, 3) := by decide +kernel
theorem dX3_lose_58 : decode cX3_lose 58 = .ok (.istore 5, 2) := by decide +kernel
theorem dX3_lose_60 : decode cX3_lose 60 = .ok (.aload_n 0, 1) := by decide +kernel
theorem dX3_lose_61 : decode cX3_lose 61 = .ok (.iload_n 1, 1) := by decide +kernel
theorem dX3_lose_62 : decode cX3_lose 62 = .ok (.iconst (-1), 1) := by decide +kernel
theorem dX3_lose_63 : decode cX3_lose 63 = .ok (.invokevirtual 67, 3) := by decide +kernel
theorem dX3_lose_66 : decode cX3_lose 66 = .ok (.iconst 1, 1) := by decide +kernel
theorem dX3_lose_67 : decode cX3_lose 67 = .ok (.ireturn, 1) := by decide +kernel
set_option maxRecDepth 20000 in
theorem ggX3_areTwo_X3_isRow : GoodIn wsX3_areTwo wsX3_isRow := goodIn_r _ [4, 5, 6, 3, 7] (by decide +kernel) (by decide +kernel)
set_option maxRecDepth 20000 in
theorem gX3_areTwo_X3_isRow : GoodIn wsX3_areTwo (va_wsS RX3 52 yX3_isRow wsX3_isRow) := goodIn_app (goodIn_of _ (by decide +kernel)) ggX3_areTwo_X3_isRow
theorem dX3_areTwo_0 : decode cX3_areTwo 0 = .ok (.iload_n 0, 1) := by decide +kernel
theorem dX3_areTwo_1 : decode cX3_areTwo 1 = .ok (.invokestatic 52, 3) := by decide +kernel
theorem dX3_areTwo_4 : decode cX3_areTwo 4 = .ok (.ifCond .eq 19, 3) := by decide +kernel
theorem dX3_areTwo_7 : decode cX3_areTwo 7 = .ok (.iload_n 1, 1) := by decide +kernel
theorem dX3_areTwo_8 : decode cX3_areTwo 8 = .ok (.invokestatic 52, 3) := by decide +kernel
theorem dX3_areTwo_11 : decode cX3_areTwo 11 = .ok (.ifCond .eq 12, 3) := by decide +kernel
theorem dX3_areTwo_14 : decode cX3_areTwo 14 = .ok (.iload_n 0, 1) := by decide +kernel
theorem dX3_areTwo_15 : decode cX3_areTwo 15 = .ok (.iload_n 1, 1) := by decide +kernel
theorem dX3_areTwo_16 : decode cX3_areTwo 16 = .ok (.if_icmp .eq 7, 3) := by decide +kernel
theorem dX3_areTwo_19 : decode cX3_areTwo 19 = .ok (.iconst 1, 1) := by decide +kernel
theorem dX3_areTwo_20 : decode cX3_areTwo 20 = .ok (.goto 4, 3) := by decide +kernel
theorem dX3_areTwo_23 : decode cX3_areTwo 23 = .ok (.iconst 0, 1) := by decide +kernel
theorem dX3_areTwo_24 : decode cX3_areTwo 24 = .ok (.ireturn, 1) := by decide +kernel
set_option maxRecDepth 20000 in
theorem ggX3_all_X3_areTwo : GoodIn wsX3_all wsX3_areTwo := goodIn_r _ [5, 6, 7, 4, 8, 9, 10, 11] (by decide +kernel) (by decide +kernel)
set_option maxRecDepth 20000 in
theorem gX3_all_X3_areTwo : GoodIn wsX3_all (va_wsS RX3 81 yX3_areTwo wsX3_areTwo) := goodIn_app (goodIn_of _ (by decide +kernel)) ggX3_all_X3_areTwo
set_option maxRecDepth 20000 in
theorem ggX3_all_X3_in : GoodIn wsX3_all wsX3_in := goodIn_r _ [11] (by decide +kernel) (by decide +kernel)
set_option maxRecDepth 20000 in
theorem gX3_all_X3_in : GoodIn wsX3_all (va_wsS RX3 40 yX3_in wsX3_in) := goodIn_app (goodIn_of _ (by decide +kernel)) ggX3_all_X3_in
set_option maxRecDepth 20000 in
theorem ggX3_all_X3_refuse : GoodIn wsX3_all wsX3_refuse := goodIn_r _ [15, 16, 32, 33, 34, 35, 36, 37, 38, 39, 40, 41, 42] (by decide +kernel) (by decide +kernel)
set_option maxRecDepth 20000 in
theorem gX3_all_X3_refuse : GoodIn wsX3_all (wsV RX3 71 RX3 yX3_refuse wsX3_refuse) := goodIn_app (goodIn_of _ (by decide +kernel)) ggX3_all_X3_refuse
set_option maxRecDepth 20000 in
theorem ggX3_all_X3_thing : GoodIn wsX3_all wsX3_thing := goodIn_r _ [20, 21, 32, 33, 34, 35, 36, 37, 38, 39, 40, 41, 42] (by decide +kernel) (by decide +kernel)
set_option maxRecDepth 20000 in
theorem gX3_all_X3_thing : GoodIn wsX3_all (wsV RX3 48 RX3 yX3_thing wsX3_thing) := goodIn_app (goodIn_of _ (by decide +kernel)) ggX3_all_X3_thing
set_option maxRecDepth 20000 in
theorem ggX3_all_X3_open : GoodIn wsX3_all wsX3_open := goodIn_r _ [25, 1, 21, 17, 18, 19, 4, 20, 32, 33, 34, 35, 36, 37, 38, 39, 40, 41, 42] (by decide +kernel) (by decide +kernel)
set_option maxRecDepth 20000 in
theorem gX3_all_X3_open : GoodIn wsX3_all (wsV RX3 63 RX3 yX3_open wsX3_open) := goodIn_app (goodIn_of _ (by decide +kernel)) ggX3_all_X3_open
set_option maxRecDepth 20000 in
theorem ggX3_all_X3_age : GoodIn wsX3_all wsX3_age := goodIn_r _ [29, 30, 31, 32, 33, 34, 35, 36, 37, 38, 39, 40, 41, 42] (by decide +kernel) (by decide +kernel)
set_option maxRecDepth 20000 in
theorem gX3_all_X3_age : GoodIn wsX3_all (wsV RX3 67 RX3 yX3_age wsX3_age) := goodIn_app (goodIn_of _ (by decide +kernel)) ggX3_all_X3_age
theorem dX3_all_0 : decode cX3_all 0 = .ok (.iload_n 1, 1) := by decide +kernel
theorem dX3_all_1 : decode cX3_all 1 = .ok (.iload_n 3, 1) := by decide +kernel
theorem dX3_all_2 : decode cX3_all 2 = .ok (.invokestatic 81, 3) := by decide +kernel
theorem dX3_all_5 : decode cX3_all 5 = .ok (.ifCond .ne 5, 3) := by decide +kernel
theorem dX3_all_8 : decode cX3_all 8 = .ok (.iconst (-1), 1) := by decide +kernel
theorem dX3_all_9 : decode cX3_all 9 = .ok (.ireturn, 1) := by decide +kernel
theorem dX3_all_10 : decode cX3_all 10 = .ok (.aload_n 0, 1) := by decide +kernel
theorem dX3_all_11 : decode cX3_all 11 = .ok (.getfield 13, 3) := by decide +kernel
theorem dX3_all_14 : decode cX3_all 14 = .ok (.iload_n 3, 1) := by decide +kernel
theorem dX3_all_15 : decode cX3_all 15 = .ok (.iaload, 1) := by decide +kernel
theorem dX3_all_16 : decode cX3_all 16 = .ok (.ifCond .ne 10, 3) := by decide +kernel
theorem dX3_all_19 : decode cX3_all 19 = .ok (.aload_n 0, 1) := by decide +kernel
theorem dX3_all_20 : decode cX3_all 20 = .ok (.getfield 13, 3) := by decide +kernel
theorem dX3_all_23 : decode cX3_all 23 = .ok (.iload_n 1, 1) := by decide +kernel
theorem dX3_all_24 : decode cX3_all 24 = .ok (.iaload, 1) := by decide +kernel
theorem dX3_all_25 : decode cX3_all 25 = .ok (.ireturn, 1) := by decide +kernel
theorem dX3_all_26 : decode cX3_all 26 = .ok (.aload_n 0, 1) := by decide +kernel
theorem dX3_all_27 : decode cX3_all 27 = .ok (.getfield 13, 3) := by decide +kernel
theorem dX3_all_30 : decode cX3_all 30 = .ok (.iload_n 1, 1) := by decide +kernel
theorem dX3_all_31 : decode cX3_all 31 = .ok (.iaload, 1) := by decide +kernel
theorem dX3_all_32 : decode cX3_all 32 = .ok (.aload_n 0, 1) := by decide +kernel
theorem dX3_all_33 : decode cX3_all 33 = .ok (.getfield 13, 3) := by decide +kernel
theorem dX3_all_36 : decode cX3_all 36 = .ok (.iload_n 3, 1) := by decide +kernel
theorem dX3_all_37 : decode cX3_all 37 = .ok (.iaload, 1) := by decide +kernel
theorem dX3_all_38 : decode cX3_all 38 = .ok (.iadd, 1) := by decide +kernel
theorem dX3_all_39 : decode cX3_all 39 = .ok (.bipush 60, 2) := by decide +kernel
theorem dX3_all_41 : decode cX3_all 41 = .ok (.if_icmp .le 6, 3) := by decide +kernel
theorem dX3_all_44 : decode cX3_all 44 = .ok (.bipush (-3), 2) := by decide +kernel
theorem dX3_all_46 : decode cX3_all 46 = .ok (.ireturn, 1) := by decide +kernel
theorem dX3_all_47 : decode cX3_all 47 = .ok (.iload_n 2, 1) := by decide +kernel
theorem dX3_all_48 : decode cX3_all 48 = .ok (.iconst (-1), 1) := by decide +kernel
theorem dX3_all_49 : decode cX3_all 49 = .ok (.aload_n 0, 1) := by decide +kernel
theorem dX3_all_50 : decode cX3_all 50 = .ok (.getfield 13, 3) := by decide +kernel
theorem dX3_all_53 : decode cX3_all 53 = .ok (.iload_n 1, 1) := by decide +kernel
theorem dX3_all_54 : decode cX3_all 54 = .ok (.iaload, 1) := by decide +kernel
theorem dX3_all_55 : decode cX3_all 55 = .ok (.invokestatic 40, 3) := by decide +kernel
theorem dX3_all_58 : decode cX3_all 58 = .ok (.ifCond .ne 11, 3) := by decide +kernel
theorem dX3_all_61 : decode cX3_all 61 = .ok (.aload_n 0, 1) := by decide +kernel
theorem dX3_all_62 : decode cX3_all 62 = .ok (.iconst 1, 1) := by decide +kernel
theorem dX3_all_63 : decode cX3_all 63 = .ok (.bipush (-5), 2) := by decide +kernel
theorem dX3_all_65 : decode cX3_all 65 = .ok (.invokevirtual 71, 3) := by decide +kernel
theorem dX3_all_68 : decode cX3_all 68 = .ok (.ireturn, 1) := by decide +kernel
theorem dX3_all_69 : decode cX3_all 69 = .ok (.iload_n 2, 1) := by decide +kernel
theorem dX3_all_70 : decode cX3_all 70 = .ok (.iconst (-1), 1) := by decide +kernel
theorem dX3_all_71 : decode cX3_all 71 = .ok (.if_icmp .ne 12, 3) := by decide +kernel
theorem dX3_all_74 : decode cX3_all 74 = .ok (.aload_n 0, 1) := by decide +kernel
theorem dX3_all_75 : decode cX3_all 75 = .ok (.getfield 13, 3) := by decide +kernel
theorem dX3_all_78 : decode cX3_all 78 = .ok (.iload_n 1, 1) := by decide +kernel
theorem dX3_all_79 : decode cX3_all 79 = .ok (.iaload, 1) := by decide +kernel
theorem dX3_all_80 : decode cX3_all 80 = .ok (.goto 4, 3) := by decide +kernel
theorem dX3_all_83 : decode cX3_all 83 = .ok (.iload_n 2, 1) := by decide +kernel
theorem dX3_all_84 : decode cX3_all 84 = .ok (.istore 4, 2) := by decide +kernel
theorem dX3_all_86 : decode cX3_all 86 = .ok (.iconst 0, 1) := by decide +kernel
theorem dX3_all_87 : decode cX3_all 87 = .ok (.istore 5, 2) := by decide +kernel
theorem dX3_all_89 : decode cX3_all 89 = .ok (.iload 5, 2) := by decide +kernel
theorem dX3_all_91 : decode cX3_all 91 = .ok (.aload_n 0, 1) := by decide +kernel
theorem dX3_all_92 : decode cX3_all 92 = .ok (.getfield 13, 3) := by decide +kernel
theorem dX3_all_95 : decode cX3_all 95 = .ok (.iload_n 3, 1) := by decide +kernel
theorem dX3_all_96 : decode cX3_all 96 = .ok (.iaload, 1) := by decide +kernel
theorem dX3_all_97 : decode cX3_all 97 = .ok (.if_icmp .ge 26, 3) := by decide +kernel
theorem dX3_all_100 : decode cX3_all 100 = .ok (.aload_n 0, 1) := by decide +kernel
theorem dX3_all_101 : decode cX3_all 101 = .ok (.iload_n 1, 1) := by decide +kernel
theorem dX3_all_102 : decode cX3_all 102 = .ok (.iload 4, 2) := by decide +kernel
theorem dX3_all_104 : decode cX3_all 104 = .ok (.iload 5, 2) := by decide +kernel
theorem dX3_all_106 : decode cX3_all 106 = .ok (.iadd, 1) := by decide +kernel
theorem dX3_all_107 : decode cX3_all 107 = .ok (.aload_n 0, 1) := by decide +kernel
theorem dX3_all_108 : decode cX3_all 108 = .ok (.iload_n 3, 1) := by decide +kernel
theorem dX3_all_109 : decode cX3_all 109 = .ok (.iload 5, 2) := by decide +kernel
theorem dX3_all_111 : decode cX3_all 111 = .ok (.invokevirtual 48, 3) := by decide +kernel
theorem dX3_all_114 : decode cX3_all 114 = .ok (.invokevirtual 63, 3) := by decide +kernel
theorem dX3_all_117 : decode cX3_all 117 = .ok (.iinc 5 1, 3) := by decide +kernel
theorem dX3_all_120 : decode cX3_all 120 = .ok (.goto (-31), 3) := by decide +kernel
theorem dX3_all_123 : decode cX3_all 123 = .ok (.aload_n 0, 1) := by decide +kernel
theorem dX3_all_124 : decode cX3_all 124 = .ok (.iload_n 1, 1) := by decide +kernel
theorem dX3_all_125 : decode cX3_all 125 = .ok (.iconst (-1), 1) := by decide +kernel
theorem dX3_all_126 : decode cX3_all 126 = .ok (.invokevirtual 67, 3) := by decide +kernel
theorem dX3_all_129 : decode cX3_all 129 = .ok (.aload_n 0, 1) := by decide +kernel
theorem dX3_all_130 : decode cX3_all 130 = .ok (.getfield 13, 3) := by decide +kernel
theorem dX3_all_133 : decode cX3_all 133 = .ok (.iload_n 1, 1) := by decide +kernel
theorem dX3_all_134 : decode cX3_all 134 = .ok (.iaload, 1) := by decide +kernel
theorem dX3_all_135 : decode cX3_all 135 = .ok (.ireturn, 1) := by decide +kernel
set_option maxRecDepth 20000 in
theorem ggX3_clear_X3_isRow : GoodIn wsX3_clear wsX3_isRow := goodIn_r _ [5, 6, 7, 4, 8] (by decide +kernel) (by decide +kernel)
set_option maxRecDepth 20000 in
theorem gX3_clear_X3_isRow : GoodIn wsX3_clear (va_wsS RX3 52 yX3_isRow wsX3_isRow) := goodIn_app (goodIn_of _ (by decide +kernel)) ggX3_clear_X3_isRow
set_option maxRecDepth 20000 in
theorem ggX3_clear_X3_age : GoodIn wsX3_clear wsX3_age := goodIn_r _ [12, 13, 14, 15, 16, 17, 18, 19, 20, 21, 22, 23, 24, 25] (by decide +kernel) (by decide +kernel)
set_option maxRecDepth 20000 in
theorem gX3_clear_X3_age : GoodIn wsX3_clear (wsV RX3 67 RX3 yX3_age wsX3_age) := goodIn_app (goodIn_of _ (by decide +kernel)) ggX3_clear_X3_age
theorem dX3_clear_0 : decode cX3_clear 0 = .ok (.iload_n 1, 1) := by decide +kernel
theorem dX3_clear_1 : decode cX3_clear 1 = .ok (.invokestatic 52, 3) := by decide +kernel
theorem dX3_clear_4 : decode cX3_clear 4 = .ok (.ifCond .ne 5, 3) := by decide +kernel
theorem dX3_clear_7 : decode cX3_clear 7 = .ok (.iconst (-1), 1) := by decide +kernel
theorem dX3_clear_8 : decode cX3_clear 8 = .ok (.ireturn, 1) := by decide +kernel
theorem dX3_clear_9 : decode cX3_clear 9 = .ok (.aload_n 0, 1) := by decide +kernel
theorem dX3_clear_10 : decode cX3_clear 10 = .ok (.getfield 13, 3) := by decide +kernel
theorem dX3_clear_13 : decode cX3_clear 13 = .ok (.iload_n 1, 1) := by decide +kernel
theorem dX3_clear_14 : decode cX3_clear 14 = .ok (.iaload, 1) := by decide +kernel
theorem dX3_clear_15 : decode cX3_clear 15 = .ok (.istore_n 2, 1) := by decide +kernel
theorem dX3_clear_16 : decode cX3_clear 16 = .ok (.iload_n 2, 1) := by decide +kernel
theorem dX3_clear_17 : decode cX3_clear 17 = .ok (.ifCond .le 9, 3) := by decide +kernel
theorem dX3_clear_20 : decode cX3_clear 20 = .ok (.aload_n 0, 1) := by decide +kernel
theorem dX3_clear_21 : decode cX3_clear 21 = .ok (.iload_n 1, 1) := by decide +kernel
theorem dX3_clear_22 : decode cX3_clear 22 = .ok (.iconst (-1), 1) := by decide +kernel
theorem dX3_clear_23 : decode cX3_clear 23 = .ok (.invokevirtual 67, 3) := by decide +kernel
theorem dX3_clear_26 : decode cX3_clear 26 = .ok (.aload_n 0, 1) := by decide +kernel
theorem dX3_clear_27 : decode cX3_clear 27 = .ok (.getfield 13, 3) := by decide +kernel
theorem dX3_clear_30 : decode cX3_clear 30 = .ok (.iload_n 1, 1) := by decide +kernel
theorem dX3_clear_31 : decode cX3_clear 31 = .ok (.iconst 0, 1) := by decide +kernel
theorem dX3_clear_32 : decode cX3_clear 32 = .ok (.iastore, 1) := by decide +kernel
theorem dX3_clear_33 : decode cX3_clear 33 = .ok (.iload_n 2, 1) := by decide +kernel
theorem dX3_clear_34 : decode cX3_clear 34 = .ok (.ireturn, 1) := by decide +kernel
theorem dX3_leave_0 : decode cX3_leave 0 = .ok (.aload_n 0, 1) := by decide +kernel
theorem dX3_leave_1 : decode cX3_leave 1 = .ok (.getfield 19, 3) := by decide +kernel
theorem dX3_leave_4 : decode cX3_leave 4 = .ok (.iload_n 1, 1) := by decide +kernel
theorem dX3_leave_5 : decode cX3_leave 5 = .ok (.iconst (-1), 1) := by decide +kernel
theorem dX3_leave_6 : decode cX3_leave 6 = .ok (.iastore, 1) := by decide +kernel
theorem dX3_leave_7 : decode cX3_leave 7 = .ok (.aload_n 0, 1) := by decide +kernel
theorem dX3_leave_8 : decode cX3_leave 8 = .ok (.getfield 25, 3) := by decide +kernel
theorem dX3_leave_11 : decode cX3_leave 11 = .ok (.iload_n 1, 1) := by decide +kernel
theorem dX3_leave_12 : decode cX3_leave 12 = .ok (.iconst (-1), 1) := by decide +kernel
theorem dX3_leave_13 : decode cX3_leave 13 = .ok (.iastore, 1) := by decide +kernel
theorem dX3_leave_14 : decode cX3_leave 14 = .ok (.aload_n 0, 1) := by decide +kernel
theorem dX3_leave_15 : decode cX3_leave 15 = .ok (.getfield 31, 3) := by decide +kernel
theorem dX3_leave_18 : decode cX3_leave 18 = .ok (.iload_n 1, 1) := by decide +kernel
theorem dX3_leave_19 : decode cX3_leave 19 = .ok (.iconst 0, 1) := by decide +kernel
theorem dX3_leave_20 : decode cX3_leave 20 = .ok (.iastore, 1) := by decide +kernel
theorem dX3_leave_21 : decode cX3_leave 21 = .ok (.aload_n 0, 1) := by decide +kernel
theorem dX3_leave_22 : decode cX3_leave 22 = .ok (.getfield 34, 3) := by decide +kernel
theorem dX3_leave_25 : decode cX3_leave 25 = .ok (.iload_n 1, 1) := by decide +kernel
theorem dX3_leave_26 : decode cX3_leave 26 = .ok (.iconst 0, 1) := by decide +kernel
theorem dX3_leave_27 : decode cX3_leave 27 = .ok (.iastore, 1) := by decide +kernel
theorem dX3_leave_28 : decode cX3_leave 28 = .ok (.return_, 1) := by decide +kernel
set_option maxRecDepth 20000 in
theorem ggX3_copy_X3_areTwo : GoodIn wsX3_copy wsX3_areTwo := goodIn_r _ [7, 8, 9, 6, 10, 11, 12, 13] (by decide +kernel) (by decide +kernel)
set_option maxRecDepth 20000 in
theorem gX3_copy_X3_areTwo : GoodIn wsX3_copy (va_wsS RX3 81 yX3_areTwo wsX3_areTwo) := goodIn_app (goodIn_of _ (by decide +kernel)) ggX3_copy_X3_areTwo
set_option maxRecDepth 20000 in
theorem ggX3_copy_X3_leave : GoodIn wsX3_copy wsX3_leave := goodIn_r _ [17, 1, 18, 19, 20, 25, 26, 27, 28, 29, 30, 31, 32, 33, 34, 35] (by decide +kernel) (by decide +kernel)
set_option maxRecDepth 20000 in
theorem gX3_copy_X3_leave : GoodIn wsX3_copy (wsV RX3 85 RX3 yX3_leave wsX3_leave) := goodIn_app (goodIn_of _ (by decide +kernel)) ggX3_copy_X3_leave
set_option maxRecDepth 20000 in
theorem ggX3_copy_X3_thing : GoodIn wsX3_copy wsX3_thing := goodIn_r _ [24, 3, 25, 26, 27, 28, 29, 30, 31, 32, 33, 34, 35] (by decide +kernel) (by decide +kernel)
set_option maxRecDepth 20000 in
theorem gX3_copy_X3_thing : GoodIn wsX3_copy (wsV RX3 48 RX3 yX3_thing wsX3_thing) := goodIn_app (goodIn_of _ (by decide +kernel)) ggX3_copy_X3_thing
theorem dX3_copy_0 : decode cX3_copy 0 = .ok (.iload_n 1, 1) := by decide +kernel
theorem dX3_copy_1 : decode cX3_copy 1 = .ok (.iload_n 2, 1) := by decide +kernel
theorem dX3_copy_2 : decode cX3_copy 2 = .ok (.invokestatic 81, 3) := by decide +kernel
theorem dX3_copy_5 : decode cX3_copy 5 = .ok (.ifCond .ne 5, 3) := by decide +kernel
theorem dX3_copy_8 : decode cX3_copy 8 = .ok (.iconst (-1), 1) := by decide +kernel
theorem dX3_copy_9 : decode cX3_copy 9 = .ok (.ireturn, 1) := by decide +kernel
theorem dX3_copy_10 : decode cX3_copy 10 = .ok (.iconst 0, 1) := by decide +kernel
theorem dX3_copy_11 : decode cX3_copy 11 = .ok (.istore_n 3, 1) := by decide +kernel
theorem dX3_copy_12 : decode cX3_copy 12 = .ok (.iload_n 3, 1) := by decide +kernel
theorem dX3_copy_13 : decode cX3_copy 13 = .ok (.iconst 4, 1) := by decide +kernel
theorem dX3_copy_14 : decode cX3_copy 14 = .ok (.if_icmp .ge 24, 3) := by decide +kernel
theorem dX3_copy_17 : decode cX3_copy 17 = .ok (.aload_n 0, 1) := by decide +kernel
theorem dX3_copy_18 : decode cX3_copy 18 = .ok (.getfield 19, 3) := by decide +kernel
theorem dX3_copy_21 : decode cX3_copy 21 = .ok (.iload_n 3, 1) := by decide +kernel
theorem dX3_copy_22 : decode cX3_copy 22 = .ok (.iaload, 1) := by decide +kernel
theorem dX3_copy_23 : decode cX3_copy 23 = .ok (.iload_n 1, 1) := by decide +kernel
theorem dX3_copy_24 : decode cX3_copy 24 = .ok (.if_icmp .ne 8, 3) := by decide +kernel
theorem dX3_copy_27 : decode cX3_copy 27 = .ok (.aload_n 0, 1) := by decide +kernel
theorem dX3_copy_28 : decode cX3_copy 28 = .ok (.iload_n 3, 1) := by decide +kernel
theorem dX3_copy_29 : decode cX3_copy 29 = .ok (.invokevirtual 85, 3) := by decide +kernel
theorem dX3_copy_32 : decode cX3_copy 32 = .ok (.iinc 3 1, 3) := by decide +kernel
theorem dX3_copy_35 : decode cX3_copy 35 = .ok (.goto (-23), 3) := by decide +kernel
theorem dX3_copy_38 : decode cX3_copy 38 = .ok (.aload_n 0, 1) := by decide +kernel
theorem dX3_copy_39 : decode cX3_copy 39 = .ok (.getfield 13, 3) := by decide +kernel
theorem dX3_copy_42 : decode cX3_copy 42 = .ok (.iload_n 1, 1) := by decide +kernel
theorem dX3_copy_43 : decode cX3_copy 43 = .ok (.aload_n 0, 1) := by decide +kernel
theorem dX3_copy_44 : decode cX3_copy 44 = .ok (.getfield 13, 3) := by decide +kernel
theorem dX3_copy_47 : decode cX3_copy 47 = .ok (.iload_n 2, 1) := by decide +kernel
theorem dX3_copy_48 : decode cX3_copy 48 = .ok (.iaload, 1) := by decide +kernel
theorem dX3_copy_49 : decode cX3_copy 49 = .ok (.iastore, 1) := by decide +kernel
theorem dX3_copy_50 : decode cX3_copy 50 = .ok (.iconst 0, 1) := by decide +kernel
theorem dX3_copy_51 : decode cX3_copy 51 = .ok (.istore_n 3, 1) := by decide +kernel
theorem dX3_copy_52 : decode cX3_copy 52 = .ok (.iload_n 3, 1) := by decide +kernel
theorem dX3_copy_53 : decode cX3_copy 53 = .ok (.aload_n 0, 1) := by decide +kernel
theorem dX3_copy_54 : decode cX3_copy 54 = .ok (.getfield 13, 3) := by decide +kernel
theorem dX3_copy_57 : decode cX3_copy 57 = .ok (.iload_n 2, 1) := by decide +kernel
theorem dX3_copy_58 : decode cX3_copy 58 = .ok (.iaload, 1) := by decide +kernel
theorem dX3_copy_59 : decode cX3_copy 59 = .ok (.if_icmp .ge 26, 3) := by decide +kernel
theorem dX3_copy_62 : decode cX3_copy 62 = .ok (.aload_n 0, 1) := by decide +kernel
theorem dX3_copy_63 : decode cX3_copy 63 = .ok (.getfield 7, 3) := by decide +kernel
theorem dX3_copy_66 : decode cX3_copy 66 = .ok (.bipush 64, 2) := by decide +kernel
theorem dX3_copy_68 : decode cX3_copy 68 = .ok (.iload_n 1, 1) := by decide +kernel
theorem dX3_copy_69 : decode cX3_copy 69 = .ok (.imul, 1) := by decide +kernel
theorem dX3_copy_70 : decode cX3_copy 70 = .ok (.iload_n 3, 1) := by decide +kernel
theorem dX3_copy_71 : decode cX3_copy 71 = .ok (.iadd, 1) := by decide +kernel
theorem dX3_copy_72 : decode cX3_copy 72 = .ok (.aload_n 0, 1) := by decide +kernel
theorem dX3_copy_73 : decode cX3_copy 73 = .ok (.iload_n 2, 1) := by decide +kernel
theorem dX3_copy_74 : decode cX3_copy 74 = .ok (.iload_n 3, 1) := by decide +kernel
theorem dX3_copy_75 : decode cX3_copy 75 = .ok (.invokevirtual 48, 3) := by decide +kernel
theorem dX3_copy_78 : decode cX3_copy 78 = .ok (.iastore, 1) := by decide +kernel
theorem dX3_copy_79 : decode cX3_copy 79 = .ok (.iinc 3 1, 3) := by decide +kernel
theorem dX3_copy_82 : decode cX3_copy 82 = .ok (.goto (-30), 3) := by decide +kernel
theorem dX3_copy_85 : decode cX3_copy 85 = .ok (.aload_n 0, 1) := by decide +kernel
theorem dX3_copy_86 : decode cX3_copy 86 = .ok (.getfield 13, 3) := by decide +kernel
theorem dX3_copy_89 : decode cX3_copy 89 = .ok (.iload_n 1, 1) := by decide +kernel
theorem dX3_copy_90 : decode cX3_copy 90 = .ok (.iaload, 1) := by decide +kernel
theorem dX3_copy_91 : decode cX3_copy 91 = .ok (.ireturn, 1) := by decide +kernel
set_option maxRecDepth 20000 in
theorem ggX3_turn_X3_isRow : GoodIn wsX3_turn wsX3_isRow := goodIn_r _ [7, 8, 9, 6, 10] (by decide +kernel) (by decide +kernel)
set_option maxRecDepth 20000 in
theorem gX3_turn_X3_isRow : GoodIn wsX3_turn (va_wsS RX3 52 yX3_isRow wsX3_isRow) := goodIn_app (goodIn_of _ (by decide +kernel)) ggX3_turn_X3_isRow
set_option maxRecDepth 20000 in
theorem ggX3_turn_X3_thing : GoodIn wsX3_turn wsX3_thing := goodIn_r _ [14, 3, 15, 16, 17, 18, 19, 20, 21, 22, 23, 24, 25] (by decide +kernel) (by decide +kernel)
set_option maxRecDepth 20000 in
theorem gX3_turn_X3_thing : GoodIn wsX3_turn (wsV RX3 48 RX3 yX3_thing wsX3_thing) := goodIn_app (goodIn_of _ (by decide +kernel)) ggX3_turn_X3_thing
theorem dX3_turn_0 : decode cX3_turn 0 = .ok (.iload_n 1, 1) := by decide +kernel
theorem dX3_turn_1 : decode cX3_turn 1 = .ok (.invokestatic 52, 3) := by decide +kernel
theorem dX3_turn_4 : decode cX3_turn 4 = .ok (.ifCond .ne 5, 3) := by decide +kernel
theorem dX3_turn_7 : decode cX3_turn 7 = .ok (.iconst (-1), 1) := by decide +kernel
theorem dX3_turn_8 : decode cX3_turn 8 = .ok (.ireturn, 1) := by decide +kernel
theorem dX3_turn_9 : decode cX3_turn 9 = .ok (.aload_n 0, 1) := by decide +kernel
theorem dX3_turn_10 : decode cX3_turn 10 = .ok (.getfield 13, 3) := by decide +kernel
theorem dX3_turn_13 : decode cX3_turn 13 = .ok (.iload_n 1, 1) := by decide +kernel
theorem dX3_turn_14 : decode cX3_turn 14 = .ok (.iaload, 1) := by decide +kernel
theorem dX3_turn_15 : decode cX3_turn 15 = .ok (.istore_n 2, 1) := by decide +kernel
theorem dX3_turn_16 : decode cX3_turn 16 = .ok (.iconst 0, 1) := by decide +kernel
theorem dX3_turn_17 : decode cX3_turn 17 = .ok (.istore_n 3, 1) := by decide +kernel
theorem dX3_turn_18 : decode cX3_turn 18 = .ok (.iload_n 3, 1) := by decide +kernel
theorem dX3_turn_19 : decode cX3_turn 19 = .ok (.iload_n 2, 1) := by decide +kernel
theorem dX3_turn_20 : decode cX3_turn 20 = .ok (.if_icmp .ge 25, 3) := by decide +kernel
theorem dX3_turn_23 : decode cX3_turn 23 = .ok (.aload_n 0, 1) := by decide +kernel
theorem dX3_turn_24 : decode cX3_turn 24 = .ok (.getfield 37, 3) := by decide +kernel
theorem dX3_turn_27 : decode cX3_turn 27 = .ok (.iload_n 3, 1) := by decide +kernel
theorem dX3_turn_28 : decode cX3_turn 28 = .ok (.aload_n 0, 1) := by decide +kernel
theorem dX3_turn_29 : decode cX3_turn 29 = .ok (.iload_n 1, 1) := by decide +kernel
theorem dX3_turn_30 : decode cX3_turn 30 = .ok (.iload_n 2, 1) := by decide +kernel
theorem dX3_turn_31 : decode cX3_turn 31 = .ok (.iconst 1, 1) := by decide +kernel
theorem dX3_turn_32 : decode cX3_turn 32 = .ok (.isub, 1) := by decide +kernel
theorem dX3_turn_33 : decode cX3_turn 33 = .ok (.iload_n 3, 1) := by decide +kernel
theorem dX3_turn_34 : decode cX3_turn 34 = .ok (.isub, 1) := by decide +kernel
theorem dX3_turn_35 : decode cX3_turn 35 = .ok (.invokevirtual 48, 3) := by decide +kernel
theorem dX3_turn_38 : decode cX3_turn 38 = .ok (.iastore, 1) := by decide +kernel
theorem dX3_turn_39 : decode cX3_turn 39 = .ok (.iinc 3 1, 3) := by decide +kernel
theorem dX3_turn_42 : decode cX3_turn 42 = .ok (.goto (-24), 3) := by decide +kernel
theorem dX3_turn_45 : decode cX3_turn 45 = .ok (.iconst 0, 1) := by decide +kernel
theorem dX3_turn_46 : decode cX3_turn 46 = .ok (.istore_n 3, 1) := by decide +kernel
theorem dX3_turn_47 : decode cX3_turn 47 = .ok (.iload_n 3, 1) := by decide +kernel
theorem dX3_turn_48 : decode cX3_turn 48 = .ok (.iload_n 2, 1) := by decide +kernel
theorem dX3_turn_49 : decode cX3_turn 49 = .ok (.if_icmp .ge 26, 3) := by decide +kernel
theorem dX3_turn_52 : decode cX3_turn 52 = .ok (.aload_n 0, 1) := by decide +kernel
theorem dX3_turn_53 : decode cX3_turn 53 = .ok (.getfield 7, 3) := by decide +kernel
theorem dX3_turn_56 : decode cX3_turn 56 = .ok (.bipush 64, 2) := by decide +kernel
theorem dX3_turn_58 : decode cX3_turn 58 = .ok (.iload_n 1, 1) := by decide +kernel
theorem dX3_turn_59 : decode cX3_turn 59 = .ok (.imul, 1) := by decide +kernel
theorem dX3_turn_60 : decode cX3_turn 60 = .ok (.iload_n 3, 1) := by decide +kernel
theorem dX3_turn_61 : decode cX3_turn 61 = .ok (.iadd, 1) := by decide +kernel
theorem dX3_turn_62 : decode cX3_turn 62 = .ok (.aload_n 0, 1) := by decide +kernel
theorem dX3_turn_63 : decode cX3_turn 63 = .ok (.getfield 37, 3) := by decide +kernel
theorem dX3_turn_66 : decode cX3_turn 66 = .ok (.iload_n 3, 1) := by decide +kernel
theorem dX3_turn_67 : decode cX3_turn 67 = .ok (.iaload, 1) := by decide +kernel
theorem dX3_turn_68 : decode cX3_turn 68 = .ok (.iastore, 1) := by decide +kernel
theorem dX3_turn_69 : decode cX3_turn 69 = .ok (.iinc 3 1, 3) := by decide +kernel
theorem dX3_turn_72 : decode cX3_turn 72 = .ok (.goto (-25), 3) := by decide +kernel
theorem dX3_turn_75 : decode cX3_turn 75 = .ok (.iload_n 2, 1) := by decide +kernel
theorem dX3_turn_76 : decode cX3_turn 76 = .ok (.ireturn, 1) := by decide +kernel
set_option maxRecDepth 20000 in
theorem ggX3_weave_X3_areTwo : GoodIn wsX3_weave wsX3_areTwo := goodIn_r _ [7, 8, 9, 6, 10, 11, 12, 13] (by decide +kernel) (by decide +kernel)
set_option maxRecDepth 20000 in
theorem gX3_weave_X3_areTwo : GoodIn wsX3_weave (va_wsS RX3 81 yX3_areTwo wsX3_areTwo) := goodIn_app (goodIn_of _ (by decide +kernel)) ggX3_weave_X3_areTwo
set_option maxRecDepth 20000 in
theorem ggX3_weave_X3_thing : GoodIn wsX3_weave wsX3_thing := goodIn_r _ [17, 3, 24, 25, 26, 27, 28, 29, 30, 31, 32, 33, 34] (by decide +kernel) (by decide +kernel)
set_option maxRecDepth 20000 in
theorem gX3_weave_X3_thing : GoodIn wsX3_weave (wsV RX3 48 RX3 yX3_thing wsX3_thing) := goodIn_app (goodIn_of _ (by decide +kernel)) ggX3_weave_X3_thing
set_option maxRecDepth 20000 in
theorem ggX3_weave_X3_age : GoodIn wsX3_weave wsX3_age := goodIn_r _ [21, 22, 23, 24, 25, 26, 27, 28, 29, 30, 31, 32, 33, 34] (by decide +kernel) (by decide +kernel)
set_option maxRecDepth 20000 in
theorem gX3_weave_X3_age : GoodIn wsX3_weave (wsV RX3 67 RX3 yX3_age wsX3_age) := goodIn_app (goodIn_of _ (by decide +kernel)) ggX3_weave_X3_age
theorem dX3_weave_0 : decode cX3_weave 0 = .ok (.iload_n 1, 1) := by decide +kernel
theorem dX3_weave_1 : decode cX3_weave 1 = .ok (.iload_n 2, 1) := by decide +kernel
theorem dX3_weave_2 : decode cX3_weave 2 = .ok (.invokestatic 81, 3) := by decide +kernel
theorem dX3_weave_5 : decode cX3_weave 5 = .ok (.ifCond .ne 5, 3) := by decide +kernel
theorem dX3_weave_8 : decode cX3_weave 8 = .ok (.iconst (-1), 1) := by decide +kernel
theorem dX3_weave_9 : decode cX3_weave 9 = .ok (.ireturn, 1) := by decide +kernel
theorem dX3_weave_10 : decode cX3_weave 10 = .ok (.aload_n 0, 1) := by decide +kernel
theorem dX3_weave_11 : decode cX3_weave 11 = .ok (.getfield 13, 3) := by decide +kernel
theorem dX3_weave_14 : decode cX3_weave 14 = .ok (.iload_n 1, 1) := by decide +kernel
theorem dX3_weave_15 : decode cX3_weave 15 = .ok (.iaload, 1) := by decide +kernel
theorem dX3_weave_16 : decode cX3_weave 16 = .ok (.istore_n 3, 1) := by decide +kernel
theorem dX3_weave_17 : decode cX3_weave 17 = .ok (.aload_n 0, 1) := by decide +kernel
theorem dX3_weave_18 : decode cX3_weave 18 = .ok (.getfield 13, 3) := by decide +kernel
theorem dX3_weave_21 : decode cX3_weave 21 = .ok (.iload_n 2, 1) := by decide +kernel
theorem dX3_weave_22 : decode cX3_weave 22 = .ok (.iaload, 1) := by decide +kernel
theorem dX3_weave_23 : decode cX3_weave 23 = .ok (.istore 4, 2) := by decide +kernel
theorem dX3_weave_25 : decode cX3_weave 25 = .ok (.iload 4, 2) := by decide +kernel
theorem dX3_weave_27 : decode cX3_weave 27 = .ok (.ifCond .ne 5, 3) := by decide +kernel
theorem dX3_weave_30 : decode cX3_weave 30 = .ok (.iload_n 3, 1) := by decide +kernel
theorem dX3_weave_31 : decode cX3_weave 31 = .ok (.ireturn, 1) := by decide +kernel
theorem dX3_weave_32 : decode cX3_weave 32 = .ok (.iload_n 3, 1) := by decide +kernel
theorem dX3_weave_33 : decode cX3_weave 33 = .ok (.iload 4, 2) := by decide +kernel
theorem dX3_weave_35 : decode cX3_weave 35 = .ok (.iadd, 1) := by decide +kernel
theorem dX3_weave_36 : decode cX3_weave 36 = .ok (.bipush 60, 2) := by decide +kernel
theorem dX3_weave_38 : decode cX3_weave 38 = .ok (.if_icmp .le 6, 3) := by decide +kernel
theorem dX3_weave_41 : decode cX3_weave 41 = .ok (.bipush (-3), 2) := by decide +kernel
theorem dX3_weave_43 : decode cX3_weave 43 = .ok (.ireturn, 1) := by decide +kernel
theorem dX3_weave_44 : decode cX3_weave 44 = .ok (.iconst 0, 1) := by decide +kernel
theorem dX3_weave_45 : decode cX3_weave 45 = .ok (.istore 5, 2) := by decide +kernel
theorem dX3_weave_47 : decode cX3_weave 47 = .ok (.iconst 0, 1) := by decide +kernel
theorem dX3_weave_48 : decode cX3_weave 48 = .ok (.istore 6, 2) := by decide +kernel
theorem dX3_weave_50 : decode cX3_weave 50 = .ok (.iload 6, 2) := by decide +kernel
theorem dX3_weave_52 : decode cX3_weave 52 = .ok (.iload_n 3, 1) := by decide +kernel
theorem dX3_weave_53 : decode cX3_weave 53 = .ok (.if_icmp .lt 10, 3) := by decide +kernel
theorem dX3_weave_56 : decode cX3_weave 56 = .ok (.iload 6, 2) := by decide +kernel
theorem dX3_weave_58 : decode cX3_weave 58 = .ok (.iload 4, 2) := by decide +kernel
theorem dX3_weave_60 : decode cX3_weave 60 = .ok (.if_icmp .ge 56, 3) := by decide +kernel
theorem dX3_weave_63 : decode cX3_weave 63 = .ok (.iload 6, 2) := by decide +kernel
theorem dX3_weave_65 : decode cX3_weave 65 = .ok (.iload_n 3, 1) := by decide +kernel
theorem dX3_weave_66 : decode cX3_weave 66 = .ok (.if_icmp .ge 20, 3) := by decide +kernel
theorem dX3_weave_69 : decode cX3_weave 69 = .ok (.aload_n 0, 1) := by decide +kernel
theorem dX3_weave_70 : decode cX3_weave 70 = .ok (.getfield 37, 3) := by decide +kernel
theorem dX3_weave_73 : decode cX3_weave 73 = .ok (.iload 5, 2) := by decide +kernel
theorem dX3_weave_75 : decode cX3_weave 75 = .ok (.aload_n 0, 1) := by decide +kernel
theorem dX3_weave_76 : decode cX3_weave 76 = .ok (.iload_n 1, 1) := by decide +kernel
theorem dX3_weave_77 : decode cX3_weave 77 = .ok (.iload 6, 2) := by decide +kernel
theorem dX3_weave_79 : decode cX3_weave 79 = .ok (.invokevirtual 48, 3) := by decide +kernel
theorem dX3_weave_82 : decode cX3_weave 82 = .ok (.iastore, 1) := by decide +kernel
theorem dX3_weave_83 : decode cX3_weave 83 = .ok (.iinc 5 1, 3) := by decide +kernel
theorem dX3_weave_86 : decode cX3_weave 86 = .ok (.iload 6, 2) := by decide +kernel
theorem dX3_weave_88 : decode cX3_weave 88 = .ok (.iload 4, 2) := by decide +kernel
theorem dX3_weave_90 : decode cX3_weave 90 = .ok (.if_icmp .ge 20, 3) := by decide +kernel
theorem dX3_weave_93 : decode cX3_weave 93 = .ok (.aload_n 0, 1) := by decide +kernel
theorem dX3_weave_94 : decode cX3_weave 94 = .ok (.getfield 37, 3) := by decide +kernel
theorem dX3_weave_97 : decode cX3_weave 97 = .ok (.iload 5, 2) := by decide +kernel
theorem dX3_weave_99 : decode cX3_weave 99 = .ok (.aload_n 0, 1) := by decide +kernel
theorem dX3_weave_100 : decode cX3_weave 100 = .ok (.iload_n 2, 1) := by decide +kernel
theorem dX3_weave_101 : decode cX3_weave 101 = .ok (.iload 6, 2) := by decide +kernel
theorem dX3_weave_103 : decode cX3_weave 103 = .ok (.invokevirtual 48, 3) := by decide +kernel
theorem dX3_weave_106 : decode cX3_weave 106 = .ok (.iastore, 1) := by decide +kernel
theorem dX3_weave_107 : decode cX3_weave 107 = .ok (.iinc 5 1, 3) := by decide +kernel
theorem dX3_weave_110 : decode cX3_weave 110 = .ok (.iinc 6 1, 3) := by decide +kernel
theorem dX3_weave_113 : decode cX3_weave 113 = .ok (.goto (-63), 3) := by decide +kernel
theorem dX3_weave_116 : decode cX3_weave 116 = .ok (.iconst 0, 1) := by decide +kernel
theorem dX3_weave_117 : decode cX3_weave 117 = .ok (.istore 6, 2) := by decide +kernel
theorem dX3_weave_119 : decode cX3_weave 119 = .ok (.iload 6, 2) := by decide +kernel
theorem dX3_weave_121 : decode cX3_weave 121 = .ok (.iload 5, 2) := by decide +kernel
theorem dX3_weave_123 : decode cX3_weave 123 = .ok (.if_icmp .ge 28, 3) := by decide +kernel
theorem dX3_weave_126 : decode cX3_weave 126 = .ok (.aload_n 0, 1) := by decide +kernel
theorem dX3_weave_127 : decode cX3_weave 127 = .ok (.getfield 7, 3) := by decide +kernel
theorem dX3_weave_130 : decode cX3_weave 130 = .ok (.bipush 64, 2) := by decide +kernel
theorem dX3_weave_132 : decode cX3_weave 132 = .ok (.iload_n 1, 1) := by decide +kernel
theorem dX3_weave_133 : decode cX3_weave 133 = .ok (.imul, 1) := by decide +kernel
theorem dX3_weave_134 : decode cX3_weave 134 = .ok (.iload 6, 2) := by decide +kernel
theorem dX3_weave_136 : decode cX3_weave 136 = .ok (.iadd, 1) := by decide +kernel
theorem dX3_weave_137 : decode cX3_weave 137 = .ok (.aload_n 0, 1) := by decide +kernel
theorem dX3_weave_138 : decode cX3_weave 138 = .ok (.getfield 37, 3) := by decide +kernel
theorem dX3_weave_141 : decode cX3_weave 141 = .ok (.iload 6, 2) := by decide +kernel
theorem dX3_weave_143 : decode cX3_weave 143 = .ok (.iaload, 1) := by decide +kernel
theorem dX3_weave_144 : decode cX3_weave 144 = .ok (.iastore, 1) := by decide +kernel
theorem dX3_weave_145 : decode cX3_weave 145 = .ok (.iinc 6 1, 3) := by decide +kernel
theorem dX3_weave_148 : decode cX3_weave 148 = .ok (.goto (-29), 3) := by decide +kernel
theorem dX3_weave_151 : decode cX3_weave 151 = .ok (.aload_n 0, 1) := by decide +kernel
theorem dX3_weave_152 : decode cX3_weave 152 = .ok (.getfield 13, 3) := by decide +kernel
theorem dX3_weave_155 : decode cX3_weave 155 = .ok (.iload_n 1, 1) := by decide +kernel
theorem dX3_weave_156 : decode cX3_weave 156 = .ok (.iload 5, 2) := by decide +kernel
theorem dX3_weave_158 : decode cX3_weave 158 = .ok (.iastore, 1) := by decide +kernel
theorem dX3_weave_159 : decode cX3_weave 159 = .ok (.aload_n 0, 1) := by decide +kernel
theorem dX3_weave_160 : decode cX3_weave 160 = .ok (.iload_n 1, 1) := by decide +kernel
theorem dX3_weave_161 : decode cX3_weave 161 = .ok (.iconst (-1), 1) := by decide +kernel
theorem dX3_weave_162 : decode cX3_weave 162 = .ok (.invokevirtual 67, 3) := by decide +kernel
theorem dX3_weave_165 : decode cX3_weave 165 = .ok (.iload 5, 2) := by decide +kernel
theorem dX3_weave_167 : decode cX3_weave 167 = .ok (.ireturn, 1) := by decide +kernel
set_option maxRecDepth 20000 in
theorem ggX3_prune_X3_isRow : GoodIn wsX3_prune wsX3_isRow := goodIn_r _ [6, 7, 8, 5, 9] (by decide +kernel) (by decide +kernel)
set_option maxRecDepth 20000 in
theorem gX3_prune_X3_isRow : GoodIn wsX3_prune (va_wsS RX3 52 yX3_isRow wsX3_isRow) := goodIn_app (goodIn_of _ (by decide +kernel)) ggX3_prune_X3_isRow
set_option maxRecDepth 20000 in
theorem ggX3_prune_X3_thing : GoodIn wsX3_prune wsX3_thing := goodIn_r _ [13, 2, 20, 21, 22, 23, 24, 25, 26, 27, 28, 29, 30] (by decide +kernel) (by decide +kernel)
set_option maxRecDepth 20000 in
theorem gX3_prune_X3_thing : GoodIn wsX3_prune (wsV RX3 48 RX3 yX3_thing wsX3_thing) := goodIn_app (goodIn_of _ (by decide +kernel)) ggX3_prune_X3_thing
set_option maxRecDepth 20000 in
theorem ggX3_prune_X3_age : GoodIn wsX3_prune wsX3_age := goodIn_r _ [17, 18, 19, 20, 21, 22, 23, 24, 25, 26, 27, 28, 29, 30] (by decide +kernel) (by decide +kernel)
set_option maxRecDepth 20000 in
theorem gX3_prune_X3_age : GoodIn wsX3_prune (wsV RX3 67 RX3 yX3_age wsX3_age) := goodIn_app (goodIn_of _ (by decide +kernel)) ggX3_prune_X3_age
theorem dX3_prune_0 : decode cX3_prune 0 = .ok (.iload_n 1, 1) := by decide +kernel
theorem dX3_prune_1 : decode cX3_prune 1 = .ok (.invokestatic 52, 3) := by decide +kernel
theorem dX3_prune_4 : decode cX3_prune 4 = .ok (.ifCond .ne 5, 3) := by decide +kernel
theorem dX3_prune_7 : decode cX3_prune 7 = .ok (.iconst (-1), 1) := by decide +kernel
theorem dX3_prune_8 : decode cX3_prune 8 = .ok (.ireturn, 1) := by decide +kernel
theorem dX3_prune_9 : decode cX3_prune 9 = .ok (.iconst 0, 1) := by decide +kernel
theorem dX3_prune_10 : decode cX3_prune 10 = .ok (.istore_n 2, 1) := by decide +kernel
theorem dX3_prune_11 : decode cX3_prune 11 = .ok (.iconst 0, 1) := by decide +kernel
theorem dX3_prune_12 : decode cX3_prune 12 = .ok (.istore_n 3, 1) := by decide +kernel
theorem dX3_prune_13 : decode cX3_prune 13 = .ok (.iconst 0, 1) := by decide +kernel
theorem dX3_prune_14 : decode cX3_prune 14 = .ok (.istore 4, 2) := by decide +kernel
theorem dX3_prune_16 : decode cX3_prune 16 = .ok (.iload 4, 2) := by decide +kernel
theorem dX3_prune_18 : decode cX3_prune 18 = .ok (.aload_n 0, 1) := by decide +kernel
theorem dX3_prune_19 : decode cX3_prune 19 = .ok (.getfield 13, 3) := by decide +kernel
theorem dX3_prune_22 : decode cX3_prune 22 = .ok (.iload_n 1, 1) := by decide +kernel
theorem dX3_prune_23 : decode cX3_prune 23 = .ok (.iaload, 1) := by decide +kernel
theorem dX3_prune_24 : decode cX3_prune 24 = .ok (.if_icmp .ge 56, 3) := by decide +kernel
theorem dX3_prune_27 : decode cX3_prune 27 = .ok (.aload_n 0, 1) := by decide +kernel
theorem dX3_prune_28 : decode cX3_prune 28 = .ok (.iload_n 1, 1) := by decide +kernel
theorem dX3_prune_29 : decode cX3_prune 29 = .ok (.iload 4, 2) := by decide +kernel
theorem dX3_prune_31 : decode cX3_prune 31 = .ok (.invokevirtual 48, 3) := by decide +kernel
theorem dX3_prune_34 : decode cX3_prune 34 = .ok (.istore 5, 2) := by decide +kernel
theorem dX3_prune_36 : decode cX3_prune 36 = .ok (.iload_n 2, 1) := by decide +kernel
theorem dX3_prune_37 : decode cX3_prune 37 = .ok (.iload 5, 2) := by decide +kernel
theorem dX3_prune_39 : decode cX3_prune 39 = .ok (.bipush 10, 2) := by decide +kernel
theorem dX3_prune_41 : decode cX3_prune 41 = .ok (.irem, 1) := by decide +kernel
theorem dX3_prune_42 : decode cX3_prune 42 = .ok (.ishr, 1) := by decide +kernel
theorem dX3_prune_43 : decode cX3_prune 43 = .ok (.iconst 1, 1) := by decide +kernel
theorem dX3_prune_44 : decode cX3_prune 44 = .ok (.iand, 1) := by decide +kernel
theorem dX3_prune_45 : decode cX3_prune 45 = .ok (.ifCond .ne 19, 3) := by decide +kernel
theorem dX3_prune_48 : decode cX3_prune 48 = .ok (.aload_n 0, 1) := by decide +kernel
theorem dX3_prune_49 : decode cX3_prune 49 = .ok (.getfield 7, 3) := by decide +kernel
theorem dX3_prune_52 : decode cX3_prune 52 = .ok (.bipush 64, 2) := by decide +kernel
theorem dX3_prune_54 : decode cX3_prune 54 = .ok (.iload_n 1, 1) := by decide +kernel
theorem dX3_prune_55 : decode cX3_prune 55 = .ok (.imul, 1) := by decide +kernel
theorem dX3_prune_56 : decode cX3_prune 56 = .ok (.iload_n 3, 1) := by decide +kernel
theorem dX3_prune_57 : decode cX3_prune 57 = .ok (.iadd, 1) := by decide +kernel
theorem dX3_prune_58 : decode cX3_prune 58 = .ok (.iload 5, 2) := by decide +kernel
theorem dX3_prune_60 : decode cX3_prune 60 = .ok (.iastore, 1) := by decide +kernel
theorem dX3_prune_61 : decode cX3_prune 61 = .ok (.iinc 3 1, 3) := by decide +kernel
theorem dX3_prune_64 : decode cX3_prune 64 = .ok (.iload_n 2, 1) := by decide +kernel
theorem dX3_prune_65 : decode cX3_prune 65 = .ok (.iconst 1, 1) := by decide +kernel
theorem dX3_prune_66 : decode cX3_prune 66 = .ok (.iload 5, 2) := by decide +kernel
theorem dX3_prune_68 : decode cX3_prune 68 = .ok (.bipush 10, 2) := by decide +kernel
theorem dX3_prune_70 : decode cX3_prune 70 = .ok (.irem, 1) := by decide +kernel
theorem dX3_prune_71 : decode cX3_prune 71 = .ok (.ishl, 1) := by decide +kernel
theorem dX3_prune_72 : decode cX3_prune 72 = .ok (.ior, 1) := by decide +kernel
theorem dX3_prune_73 : decode cX3_prune 73 = .ok (.istore_n 2, 1) := by decide +kernel
theorem dX3_prune_74 : decode cX3_prune 74 = .ok (.iinc 4 1, 3) := by decide +kernel
theorem dX3_prune_77 : decode cX3_prune 77 = .ok (.goto (-61), 3) := by decide +kernel
theorem dX3_prune_80 : decode cX3_prune 80 = .ok (.aload_n 0, 1) := by decide +kernel
theorem dX3_prune_81 : decode cX3_prune 81 = .ok (.getfield 13, 3) := by decide +kernel
theorem dX3_prune_84 : decode cX3_prune 84 = .ok (.iload_n 1, 1) := by decide +kernel
theorem dX3_prune_85 : decode cX3_prune 85 = .ok (.iaload, 1) := by decide +kernel
theorem dX3_prune_86 : decode cX3_prune 86 = .ok (.iload_n 3, 1) := by decide +kernel
theorem dX3_prune_87 : decode cX3_prune 87 = .ok (.isub, 1) := by decide +kernel
theorem dX3_prune_88 : decode cX3_prune 88 = .ok (.istore 4, 2) := by decide +kernel
theorem dX3_prune_90 : decode cX3_prune 90 = .ok (.aload_n 0, 1) := by decide +kernel
theorem dX3_prune_91 : decode cX3_prune 91 = .ok (.getfield 13, 3) := by decide +kernel
theorem dX3_prune_94 : decode cX3_prune 94 = .ok (.iload_n 1, 1) := by decide +kernel
theorem dX3_prune_95 : decode cX3_prune 95 = .ok (.iload_n 3, 1) := by decide +kernel
theorem dX3_prune_96 : decode cX3_prune 96 = .ok (.iastore, 1) := by decide +kernel
theorem dX3_prune_97 : decode cX3_prune 97 = .ok (.iload 4, 2) := by decide +kernel
theorem dX3_prune_99 : decode cX3_prune 99 = .ok (.ifCond .le 9, 3) := by decide +kernel
theorem dX3_prune_102 : decode cX3_prune 102 = .ok (.aload_n 0, 1) := by decide +kernel
theorem dX3_prune_103 : decode cX3_prune 103 = .ok (.iload_n 1, 1) := by decide +kernel
theorem dX3_prune_104 : decode cX3_prune 104 = .ok (.iconst (-1), 1) := by decide +kernel
theorem dX3_prune_105 : decode cX3_prune 105 = .ok (.invokevirtual 67, 3) := by decide +kernel
theorem dX3_prune_108 : decode cX3_prune 108 = .ok (.iload 4, 2) := by decide +kernel
theorem dX3_prune_110 : decode cX3_prune 110 = .ok (.ireturn, 1) := by decide +kernel
set_option maxRecDepth 20000 in
theorem ggX3_size_X3_isRow : GoodIn wsX3_size wsX3_isRow := goodIn_r _ [5, 6, 7, 4, 8] (by decide +kernel) (by decide +kernel)
set_option maxRecDepth 20000 in
theorem gX3_size_X3_isRow : GoodIn wsX3_size (va_wsS RX3 52 yX3_isRow wsX3_isRow) := goodIn_app (goodIn_of _ (by decide +kernel)) ggX3_size_X3_isRow
theorem dX3_size_0 : decode cX3_size 0 = .ok (.iload_n 1, 1) := by decide +kernel
theorem dX3_size_1 : decode cX3_size 1 = .ok (.invokestatic 52, 3) := by decide +kernel
theorem dX3_size_4 : decode cX3_size 4 = .ok (.ifCond .eq 12, 3) := by decide +kernel
theorem dX3_size_7 : decode cX3_size 7 = .ok (.aload_n 0, 1) := by decide +kernel
theorem dX3_size_8 : decode cX3_size 8 = .ok (.getfield 13, 3) := by decide +kernel
theorem dX3_size_11 : decode cX3_size 11 = .ok (.iload_n 1, 1) := by decide +kernel
theorem dX3_size_12 : decode cX3_size 12 = .ok (.iaload, 1) := by decide +kernel
theorem dX3_size_13 : decode cX3_size 13 = .ok (.goto 4, 3) := by decide +kernel
theorem dX3_size_16 : decode cX3_size 16 = .ok (.iconst (-1), 1) := by decide +kernel
theorem dX3_size_17 : decode cX3_size 17 = .ok (.ireturn, 1) := by decide +kernel
set_option maxRecDepth 20000 in
theorem ggX3_sum_X3_isRow : GoodIn wsX3_sum wsX3_isRow := goodIn_r _ [6, 7, 8, 5, 9] (by decide +kernel) (by decide +kernel)
set_option maxRecDepth 20000 in
theorem gX3_sum_X3_isRow : GoodIn wsX3_sum (va_wsS RX3 52 yX3_isRow wsX3_isRow) := goodIn_app (goodIn_of _ (by decide +kernel)) ggX3_sum_X3_isRow
set_option maxRecDepth 20000 in
theorem ggX3_sum_X3_thing : GoodIn wsX3_sum wsX3_thing := goodIn_r _ [13, 14, 15, 16, 17, 18, 19, 20, 21, 22, 23, 24, 25] (by decide +kernel) (by decide +kernel)
set_option maxRecDepth 20000 in
theorem gX3_sum_X3_thing : GoodIn wsX3_sum (wsV RX3 48 RX3 yX3_thing wsX3_thing) := goodIn_app (goodIn_of _ (by decide +kernel)) ggX3_sum_X3_thing
theorem dX3_sum_0 : decode cX3_sum 0 = .ok (.iload_n 1, 1) := by decide +kernel
theorem dX3_sum_1 : decode cX3_sum 1 = .ok (.invokestatic 52, 3) := by decide +kernel
theorem dX3_sum_4 : decode cX3_sum 4 = .ok (.ifCond .ne 5, 3) := by decide +kernel
theorem dX3_sum_7 : decode cX3_sum 7 = .ok (.iconst (-1), 1) := by decide +kernel
theorem dX3_sum_8 : decode cX3_sum 8 = .ok (.ireturn, 1) := by decide +kernel
theorem dX3_sum_9 : decode cX3_sum 9 = .ok (.bipush 7, 2) := by decide +kernel
theorem dX3_sum_11 : decode cX3_sum 11 = .ok (.istore_n 2, 1) := by decide +kernel
theorem dX3_sum_12 : decode cX3_sum 12 = .ok (.iconst 0, 1) := by decide +kernel
theorem dX3_sum_13 : decode cX3_sum 13 = .ok (.istore_n 3, 1) := by decide +kernel
theorem dX3_sum_14 : decode cX3_sum 14 = .ok (.iload_n 3, 1) := by decide +kernel
theorem dX3_sum_15 : decode cX3_sum 15 = .ok (.aload_n 0, 1) := by decide +kernel
theorem dX3_sum_16 : decode cX3_sum 16 = .ok (.getfield 13, 3) := by decide +kernel
theorem dX3_sum_19 : decode cX3_sum 19 = .ok (.iload_n 1, 1) := by decide +kernel
theorem dX3_sum_20 : decode cX3_sum 20 = .ok (.iaload, 1) := by decide +kernel
theorem dX3_sum_21 : decode cX3_sum 21 = .ok (.if_icmp .ge 24, 3) := by decide +kernel
theorem dX3_sum_24 : decode cX3_sum 24 = .ok (.bipush 31, 2) := by decide +kernel
theorem dX3_sum_26 : decode cX3_sum 26 = .ok (.iload_n 2, 1) := by decide +kernel
theorem dX3_sum_27 : decode cX3_sum 27 = .ok (.imul, 1) := by decide +kernel
theorem dX3_sum_28 : decode cX3_sum 28 = .ok (.aload_n 0, 1) := by decide +kernel
theorem dX3_sum_29 : decode cX3_sum 29 = .ok (.iload_n 1, 1) := by decide +kernel
theorem dX3_sum_30 : decode cX3_sum 30 = .ok (.iload_n 3, 1) := by decide +kernel
theorem dX3_sum_31 : decode cX3_sum 31 = .ok (.invokevirtual 48, 3) := by decide +kernel
theorem dX3_sum_34 : decode cX3_sum 34 = .ok (.iadd, 1) := by decide +kernel
theorem dX3_sum_35 : decode cX3_sum 35 = .ok (.ldc 89, 2) := by decide +kernel
theorem dX3_sum_37 : decode cX3_sum 37 = .ok (.irem, 1) := by decide +kernel
theorem dX3_sum_38 : decode cX3_sum 38 = .ok (.istore_n 2, 1) := by decide +kernel
theorem dX3_sum_39 : decode cX3_sum 39 = .ok (.iinc 3 1, 3) := by decide +kernel
theorem dX3_sum_42 : decode cX3_sum 42 = .ok (.goto (-28), 3) := by decide +kernel
theorem dX3_sum_45 : decode cX3_sum 45 = .ok (.iload_n 2, 1) := by decide +kernel
theorem dX3_sum_46 : decode cX3_sum 46 = .ok (.ireturn, 1) := by decide +kernel
set_option maxRecDepth 20000 in
theorem ggX3_peg_X3_isPeg : GoodIn wsX3_peg wsX3_isPeg := goodIn_r _ [7, 8, 9, 6, 10] (by decide +kernel) (by decide +kernel)
set_option maxRecDepth 20000 in
theorem gX3_peg_X3_isPeg : GoodIn wsX3_peg (va_wsS RX3 90 yX3_isPeg wsX3_isPeg) := goodIn_app (goodIn_of _ (by decide +kernel)) ggX3_peg_X3_isPeg
set_option maxRecDepth 20000 in
theorem ggX3_peg_X3_isRow : GoodIn wsX3_peg wsX3_isRow := goodIn_r _ [13, 8, 9, 6, 10] (by decide +kernel) (by decide +kernel)
set_option maxRecDepth 20000 in
theorem gX3_peg_X3_isRow : GoodIn wsX3_peg (va_wsS RX3 52 yX3_isRow wsX3_isRow) := goodIn_app (goodIn_of _ (by decide +kernel)) ggX3_peg_X3_isRow
set_option maxRecDepth 20000 in
theorem ggX3_peg_X3_in : GoodIn wsX3_peg wsX3_in := goodIn_r _ [10] (by decide +kernel) (by decide +kernel)
set_option maxRecDepth 20000 in
theorem gX3_peg_X3_in : GoodIn wsX3_peg (va_wsS RX3 40 yX3_in wsX3_in) := goodIn_app (goodIn_of _ (by decide +kernel)) ggX3_peg_X3_in
set_option maxRecDepth 20000 in
theorem ggX3_peg_X3_refuse : GoodIn wsX3_peg wsX3_refuse := goodIn_r _ [17, 18, 26, 27, 28, 29, 30, 31, 32, 33, 34, 35, 36] (by decide +kernel) (by decide +kernel)
set_option maxRecDepth 20000 in
theorem gX3_peg_X3_refuse : GoodIn wsX3_peg (wsV RX3 71 RX3 yX3_refuse wsX3_refuse) := goodIn_app (goodIn_of _ (by decide +kernel)) ggX3_peg_X3_refuse
set_option maxRecDepth 20000 in
theorem ggX3_peg_X3_leave : GoodIn wsX3_peg wsX3_leave := goodIn_r _ [22, 2, 23, 24, 25, 26, 27, 28, 29, 30, 31, 32, 33, 34, 35, 36] (by decide +kernel) (by decide +kernel)
set_option maxRecDepth 20000 in
theorem gX3_peg_X3_leave : GoodIn wsX3_peg (wsV RX3 85 RX3 yX3_leave wsX3_leave) := goodIn_app (goodIn_of _ (by decide +kernel)) ggX3_peg_X3_leave
theorem dX3_peg_0 : decode cX3_peg 0 = .ok (.iload_n 1, 1) := by decide +kernel
theorem dX3_peg_1 : decode cX3_peg 1 = .ok (.invokestatic 90, 3) := by decide +kernel
theorem dX3_peg_4 : decode cX3_peg 4 = .ok (.ifCond .eq 10, 3) := by decide +kernel
theorem dX3_peg_7 : decode cX3_peg 7 = .ok (.iload_n 2, 1) := by decide +kernel
theorem dX3_peg_8 : decode cX3_peg 8 = .ok (.invokestatic 52, 3) := by decide +kernel
theorem dX3_peg_11 : decode cX3_peg 11 = .ok (.ifCond .ne 5, 3) := by decide +kernel
theorem dX3_peg_14 : decode cX3_peg 14 = .ok (.iconst (-1), 1) := by decide +kernel
theorem dX3_peg_15 : decode cX3_peg 15 = .ok (.ireturn, 1) := by decide +kernel
theorem dX3_peg_16 : decode cX3_peg 16 = .ok (.iload_n 3, 1) := by decide +kernel
theorem dX3_peg_17 : decode cX3_peg 17 = .ok (.iconst 0, 1) := by decide +kernel
theorem dX3_peg_18 : decode cX3_peg 18 = .ok (.aload_n 0, 1) := by decide +kernel
theorem dX3_peg_19 : decode cX3_peg 19 = .ok (.getfield 13, 3) := by decide +kernel
theorem dX3_peg_22 : decode cX3_peg 22 = .ok (.iload_n 2, 1) := by decide +kernel
theorem dX3_peg_23 : decode cX3_peg 23 = .ok (.iaload, 1) := by decide +kernel
theorem dX3_peg_24 : decode cX3_peg 24 = .ok (.invokestatic 40, 3) := by decide +kernel
theorem dX3_peg_27 : decode cX3_peg 27 = .ok (.ifCond .ne 11, 3) := by decide +kernel
theorem dX3_peg_30 : decode cX3_peg 30 = .ok (.aload_n 0, 1) := by decide +kernel
theorem dX3_peg_31 : decode cX3_peg 31 = .ok (.iconst 1, 1) := by decide +kernel
theorem dX3_peg_32 : decode cX3_peg 32 = .ok (.bipush (-5), 2) := by decide +kernel
theorem dX3_peg_34 : decode cX3_peg 34 = .ok (.invokevirtual 71, 3) := by decide +kernel
theorem dX3_peg_37 : decode cX3_peg 37 = .ok (.ireturn, 1) := by decide +kernel
theorem dX3_peg_38 : decode cX3_peg 38 = .ok (.aload_n 0, 1) := by decide +kernel
theorem dX3_peg_39 : decode cX3_peg 39 = .ok (.iload_n 1, 1) := by decide +kernel
theorem dX3_peg_40 : decode cX3_peg 40 = .ok (.invokevirtual 85, 3) := by decide +kernel
theorem dX3_peg_43 : decode cX3_peg 43 = .ok (.aload_n 0, 1) := by decide +kernel
theorem dX3_peg_44 : decode cX3_peg 44 = .ok (.getfield 19, 3) := by decide +kernel
theorem dX3_peg_47 : decode cX3_peg 47 = .ok (.iload_n 1, 1) := by decide +kernel
theorem dX3_peg_48 : decode cX3_peg 48 = .ok (.iload_n 2, 1) := by decide +kernel
theorem dX3_peg_49 : decode cX3_peg 49 = .ok (.iastore, 1) := by decide +kernel
theorem dX3_peg_50 : decode cX3_peg 50 = .ok (.aload_n 0, 1) := by decide +kernel
theorem dX3_peg_51 : decode cX3_peg 51 = .ok (.getfield 22, 3) := by decide +kernel
theorem dX3_peg_54 : decode cX3_peg 54 = .ok (.iload_n 1, 1) := by decide +kernel
theorem dX3_peg_55 : decode cX3_peg 55 = .ok (.iload_n 3, 1) := by decide +kernel
theorem dX3_peg_56 : decode cX3_peg 56 = .ok (.iastore, 1) := by decide +kernel
theorem dX3_peg_57 : decode cX3_peg 57 = .ok (.iload_n 3, 1) := by decide +kernel
theorem dX3_peg_58 : decode cX3_peg 58 = .ok (.ireturn, 1) := by decide +kernel
set_option maxRecDepth 20000 in
theorem ggX3_bars_X3_refuse : GoodIn wsX3_bars wsX3_refuse := goodIn_r _ [7, 8, 9, 10, 11, 12, 13, 14, 15, 16, 17, 18, 19] (by decide +kernel) (by decide +kernel)
set_option maxRecDepth 20000 in
theorem gX3_bars_X3_refuse : GoodIn wsX3_bars (wsV RX3 71 RX3 yX3_refuse wsX3_refuse) := goodIn_app (goodIn_of _ (by decide +kernel)) ggX3_bars_X3_refuse
theorem dX3_bars_0 : decode cX3_bars 0 = .ok (.aload_n 0, 1) := by decide +kernel
theorem dX3_bars_1 : decode cX3_bars 1 = .ok (.getfield 19, 3) := by decide +kernel
theorem dX3_bars_4 : decode cX3_bars 4 = .ok (.iload_n 1, 1) := by decide +kernel
theorem dX3_bars_5 : decode cX3_bars 5 = .ok (.iaload, 1) := by decide +kernel
theorem dX3_bars_6 : decode cX3_bars 6 = .ok (.iconst (-1), 1) := by decide +kernel
theorem dX3_bars_7 : decode cX3_bars 7 = .ok (.if_icmp .ne 6, 3) := by decide +kernel
theorem dX3_bars_10 : decode cX3_bars 10 = .ok (.bipush (-2), 2) := by decide +kernel
theorem dX3_bars_12 : decode cX3_bars 12 = .ok (.ireturn, 1) := by decide +kernel
theorem dX3_bars_13 : decode cX3_bars 13 = .ok (.aload_n 0, 1) := by decide +kernel
theorem dX3_bars_14 : decode cX3_bars 14 = .ok (.getfield 34, 3) := by decide +kernel
theorem dX3_bars_17 : decode cX3_bars 17 = .ok (.iload_n 1, 1) := by decide +kernel
theorem dX3_bars_18 : decode cX3_bars 18 = .ok (.iaload, 1) := by decide +kernel
theorem dX3_bars_19 : decode cX3_bars 19 = .ok (.iconst 1, 1) := by decide +kernel
theorem dX3_bars_20 : decode cX3_bars 20 = .ok (.if_icmp .ne 13, 3) := by decide +kernel
theorem dX3_bars_23 : decode cX3_bars 23 = .ok (.aload_n 0, 1) := by decide +kernel
theorem dX3_bars_24 : decode cX3_bars 24 = .ok (.iconst 3, 1) := by decide +kernel
theorem dX3_bars_25 : decode cX3_bars 25 = .ok (.bipush (-4), 2) := by decide +kernel
theorem dX3_bars_27 : decode cX3_bars 27 = .ok (.invokevirtual 71, 3) := by decide +kernel
theorem dX3_bars_30 : decode cX3_bars 30 = .ok (.goto 4, 3) := by decide +kernel
theorem dX3_bars_33 : decode cX3_bars 33 = .ok (.iconst 0, 1) := by decide +kernel
theorem dX3_bars_34 : decode cX3_bars 34 = .ok (.ireturn, 1) := by decide +kernel
set_option maxRecDepth 20000 in
theorem ggX3_goes_X3_in : GoodIn wsX3_goes wsX3_in := goodIn_r _ [10] (by decide +kernel) (by decide +kernel)
set_option maxRecDepth 20000 in
theorem gX3_goes_X3_in : GoodIn wsX3_goes (va_wsS RX3 40 yX3_in wsX3_in) := goodIn_app (goodIn_of _ (by decide +kernel)) ggX3_goes_X3_in
set_option maxRecDepth 20000 in
theorem ggX3_goes_X3_refuse : GoodIn wsX3_goes wsX3_refuse := goodIn_r _ [14, 15, 21, 22, 23, 24, 25, 26, 27, 28, 29, 30, 31] (by decide +kernel) (by decide +kernel)
set_option maxRecDepth 20000 in
theorem gX3_goes_X3_refuse : GoodIn wsX3_goes (wsV RX3 71 RX3 yX3_refuse wsX3_refuse) := goodIn_app (goodIn_of _ (by decide +kernel)) ggX3_goes_X3_refuse
set_option maxRecDepth 20000 in
theorem ggX3_goes_X3_thing : GoodIn wsX3_goes wsX3_thing := goodIn_r _ [19, 20, 21, 22, 23, 24, 25, 26, 27, 28, 29, 30, 31] (by decide +kernel) (by decide +kernel)
set_option maxRecDepth 20000 in
theorem gX3_goes_X3_thing : GoodIn wsX3_goes (wsV RX3 48 RX3 yX3_thing wsX3_thing) := goodIn_app (goodIn_of _ (by decide +kernel)) ggX3_goes_X3_thing
theorem dX3_goes_0 : decode cX3_goes 0 = .ok (.aload_n 0, 1) := by decide +kernel
theorem dX3_goes_1 : decode cX3_goes 1 = .ok (.getfield 19, 3) := by decide +kernel
theorem dX3_goes_4 : decode cX3_goes 4 = .ok (.iload_n 1, 1) := by decide +kernel
theorem dX3_goes_5 : decode cX3_goes 5 = .ok (.iaload, 1) := by decide +kernel
theorem dX3_goes_6 : decode cX3_goes 6 = .ok (.istore 4, 2) := by decide +kernel
theorem dX3_goes_8 : decode cX3_goes 8 = .ok (.iload_n 2, 1) := by decide +kernel
theorem dX3_goes_9 : decode cX3_goes 9 = .ok (.iconst 0, 1) := by decide +kernel
theorem dX3_goes_10 : decode cX3_goes 10 = .ok (.aload_n 0, 1) := by decide +kernel
theorem dX3_goes_11 : decode cX3_goes 11 = .ok (.getfield 13, 3) := by decide +kernel
theorem dX3_goes_14 : decode cX3_goes 14 = .ok (.iload 4, 2) := by decide +kernel
theorem dX3_goes_16 : decode cX3_goes 16 = .ok (.iaload, 1) := by decide +kernel
theorem dX3_goes_17 : decode cX3_goes 17 = .ok (.iconst 1, 1) := by decide +kernel
theorem dX3_goes_18 : decode cX3_goes 18 = .ok (.isub, 1) := by decide +kernel
theorem dX3_goes_19 : decode cX3_goes 19 = .ok (.invokestatic 40, 3) := by decide +kernel
theorem dX3_goes_22 : decode cX3_goes 22 = .ok (.ifCond .ne 18, 3) := by decide +kernel
theorem dX3_goes_25 : decode cX3_goes 25 = .ok (.aload_n 0, 1) := by decide +kernel
theorem dX3_goes_26 : decode cX3_goes 26 = .ok (.getfield 31, 3) := by decide +kernel
theorem dX3_goes_29 : decode cX3_goes 29 = .ok (.iload_n 1, 1) := by decide +kernel
theorem dX3_goes_30 : decode cX3_goes 30 = .ok (.iconst 1, 1) := by decide +kernel
theorem dX3_goes_31 : decode cX3_goes 31 = .ok (.iastore, 1) := by decide +kernel
theorem dX3_goes_32 : decode cX3_goes 32 = .ok (.aload_n 0, 1) := by decide +kernel
theorem dX3_goes_33 : decode cX3_goes 33 = .ok (.iconst 0, 1) := by decide +kernel
theorem dX3_goes_34 : decode cX3_goes 34 = .ok (.bipush (-6), 2) := by decide +kernel
theorem dX3_goes_36 : decode cX3_goes 36 = .ok (.invokevirtual 71, 3) := by decide +kernel
theorem dX3_goes_39 : decode cX3_goes 39 = .ok (.ireturn, 1) := by decide +kernel
theorem dX3_goes_40 : decode cX3_goes 40 = .ok (.aload_n 0, 1) := by decide +kernel
theorem dX3_goes_41 : decode cX3_goes 41 = .ok (.getfield 25, 3) := by decide +kernel
theorem dX3_goes_44 : decode cX3_goes 44 = .ok (.iload_n 1, 1) := by decide +kernel
theorem dX3_goes_45 : decode cX3_goes 45 = .ok (.aload_n 0, 1) := by decide +kernel
theorem dX3_goes_46 : decode cX3_goes 46 = .ok (.iload 4, 2) := by decide +kernel
theorem dX3_goes_48 : decode cX3_goes 48 = .ok (.iload_n 2, 1) := by decide +kernel
theorem dX3_goes_49 : decode cX3_goes 49 = .ok (.invokevirtual 48, 3) := by decide +kernel
theorem dX3_goes_52 : decode cX3_goes 52 = .ok (.iastore, 1) := by decide +kernel
theorem dX3_goes_53 : decode cX3_goes 53 = .ok (.aload_n 0, 1) := by decide +kernel
theorem dX3_goes_54 : decode cX3_goes 54 = .ok (.getfield 28, 3) := by decide +kernel
theorem dX3_goes_57 : decode cX3_goes 57 = .ok (.iload_n 1, 1) := by decide +kernel
theorem dX3_goes_58 : decode cX3_goes 58 = .ok (.iload_n 2, 1) := by decide +kernel
theorem dX3_goes_59 : decode cX3_goes 59 = .ok (.iastore, 1) := by decide +kernel
theorem dX3_goes_60 : decode cX3_goes 60 = .ok (.aload_n 0, 1) := by decide +kernel
theorem dX3_goes_61 : decode cX3_goes 61 = .ok (.getfield 31, 3) := by decide +kernel
theorem dX3_goes_64 : decode cX3_goes 64 = .ok (.iload_n 1, 1) := by decide +kernel
theorem dX3_goes_65 : decode cX3_goes 65 = .ok (.iconst 0, 1) := by decide +kernel
theorem dX3_goes_66 : decode cX3_goes 66 = .ok (.iastore, 1) := by decide +kernel
theorem dX3_goes_67 : decode cX3_goes 67 = .ok (.aload_n 0, 1) := by decide +kernel
theorem dX3_goes_68 : decode cX3_goes 68 = .ok (.getfield 22, 3) := by decide +kernel
theorem dX3_goes_71 : decode cX3_goes 71 = .ok (.iload_n 1, 1) := by decide +kernel
theorem dX3_goes_72 : decode cX3_goes 72 = .ok (.iload_n 3, 1) := by decide +kernel
theorem dX3_goes_73 : decode cX3_goes 73 = .ok (.iastore, 1) := by decide +kernel
theorem dX3_goes_74 : decode cX3_goes 74 = .ok (.aload_n 0, 1) := by decide +kernel
theorem dX3_goes_75 : decode cX3_goes 75 = .ok (.getfield 25, 3) := by decide +kernel
theorem dX3_goes_78 : decode cX3_goes 78 = .ok (.iload_n 1, 1) := by decide +kernel
theorem dX3_goes_79 : decode cX3_goes 79 = .ok (.iaload, 1) := by decide +kernel
theorem dX3_goes_80 : decode cX3_goes 80 = .ok (.ireturn, 1) := by decide +kernel
set_option maxRecDepth 20000 in
theorem ggX3_next_X3_isPeg : GoodIn wsX3_next wsX3_isPeg := goodIn_r _ [5, 6, 7, 4, 8] (by decide +kernel) (by decide +kernel)
set_option maxRecDepth 20000 in
theorem gX3_next_X3_isPeg : GoodIn wsX3_next (va_wsS RX3 90 yX3_isPeg wsX3_isPeg) := goodIn_app (goodIn_of _ (by decide +kernel)) ggX3_next_X3_isPeg
set_option maxRecDepth 20000 in
theorem ggX3_next_X3_bars : GoodIn wsX3_next wsX3_bars := goodIn_r _ [12, 13, 14, 15, 16, 17, 4, 18, 19, 33, 34, 35, 36, 37, 38, 39, 40, 41, 42, 43] (by decide +kernel) (by decide +kernel)
set_option maxRecDepth 20000 in
theorem gX3_next_X3_bars : GoodIn wsX3_next (wsV RX3 93 RX3 yX3_bars wsX3_bars) := goodIn_app (goodIn_of _ (by decide +kernel)) ggX3_next_X3_bars
set_option maxRecDepth 20000 in
theorem ggX3_next_X3_goes : GoodIn wsX3_next wsX3_goes := goodIn_r _ [23, 13, 24, 25, 26, 27, 1, 6, 7, 4, 8, 15, 16, 17, 18, 19, 28, 29, 30, 31, 32, 33, 34, 35, 36, 37, 38, 39, 40, 41, 42, 43] (by decide +kernel) (by decide +kernel)
set_option maxRecDepth 20000 in
theorem gX3_next_X3_goes : GoodIn wsX3_next (wsV RX3 96 RX3 yX3_goes wsX3_goes) := goodIn_app (goodIn_of _ (by decide +kernel)) ggX3_next_X3_goes
theorem dX3_next_0 : decode cX3_next 0 = .ok (.iload_n 1, 1) := by decide +kernel
theorem dX3_next_1 : decode cX3_next 1 = .ok (.invokestatic 90, 3) := by decide +kernel
theorem dX3_next_4 : decode cX3_next 4 = .ok (.ifCond .ne 5, 3) := by decide +kernel
theorem dX3_next_7 : decode cX3_next 7 = .ok (.iconst (-1), 1) := by decide +kernel
theorem dX3_next_8 : decode cX3_next 8 = .ok (.ireturn, 1) := by decide +kernel
theorem dX3_next_9 : decode cX3_next 9 = .ok (.aload_n 0, 1) := by decide +kernel
theorem dX3_next_10 : decode cX3_next 10 = .ok (.iload_n 1, 1) := by decide +kernel
theorem dX3_next_11 : decode cX3_next 11 = .ok (.invokevirtual 93, 3) := by decide +kernel
theorem dX3_next_14 : decode cX3_next 14 = .ok (.istore_n 2, 1) := by decide +kernel
theorem dX3_next_15 : decode cX3_next 15 = .ok (.iload_n 2, 1) := by decide +kernel
theorem dX3_next_16 : decode cX3_next 16 = .ok (.ifCond .ge 7, 3) := by decide +kernel
theorem dX3_next_19 : decode cX3_next 19 = .ok (.iload_n 2, 1) := by decide +kernel
theorem dX3_next_20 : decode cX3_next 20 = .ok (.goto 22, 3) := by decide +kernel
theorem dX3_next_23 : decode cX3_next 23 = .ok (.aload_n 0, 1) := by decide +kernel
theorem dX3_next_24 : decode cX3_next 24 = .ok (.iload_n 1, 1) := by decide +kernel
theorem dX3_next_25 : decode cX3_next 25 = .ok (.aload_n 0, 1) := by decide +kernel
theorem dX3_next_26 : decode cX3_next 26 = .ok (.getfield 22, 3) := by decide +kernel
theorem dX3_next_29 : decode cX3_next 29 = .ok (.iload_n 1, 1) := by decide +kernel
theorem dX3_next_30 : decode cX3_next 30 = .ok (.iaload, 1) := by decide +kernel
theorem dX3_next_31 : decode cX3_next 31 = .ok (.aload_n 0, 1) := by decide +kernel
theorem dX3_next_32 : decode cX3_next 32 = .ok (.getfield 22, 3) := by decide +kernel
theorem dX3_next_35 : decode cX3_next 35 = .ok (.iload_n 1, 1) := by decide +kernel
theorem dX3_next_36 : decode cX3_next 36 = .ok (.iaload, 1) := by decide +kernel
theorem dX3_next_37 : decode cX3_next 37 = .ok (.iconst 1, 1) := by decide +kernel
theorem dX3_next_38 : decode cX3_next 38 = .ok (.iadd, 1) := by decide +kernel
theorem dX3_next_39 : decode cX3_next 39 = .ok (.invokevirtual 96, 3) := by decide +kernel
theorem dX3_next_42 : decode cX3_next 42 = .ok (.ireturn, 1) := by decide +kernel
set_option maxRecDepth 20000 in
theorem ggX3_previous_X3_isPeg : GoodIn wsX3_previous wsX3_isPeg := goodIn_r _ [5, 6, 7, 4, 8] (by decide +kernel) (by decide +kernel)
set_option maxRecDepth 20000 in
theorem gX3_previous_X3_isPeg : GoodIn wsX3_previous (va_wsS RX3 90 yX3_isPeg wsX3_isPeg) := goodIn_app (goodIn_of _ (by decide +kernel)) ggX3_previous_X3_isPeg
set_option maxRecDepth 20000 in
theorem ggX3_previous_X3_bars : GoodIn wsX3_previous wsX3_bars := goodIn_r _ [12, 13, 14, 15, 16, 17, 4, 18, 19, 33, 34, 35, 36, 37, 38, 39, 40, 41, 42, 43] (by decide +kernel) (by decide +kernel)
set_option maxRecDepth 20000 in
theorem gX3_previous_X3_bars : GoodIn wsX3_previous (wsV RX3 93 RX3 yX3_bars wsX3_bars) := goodIn_app (goodIn_of _ (by decide +kernel)) ggX3_previous_X3_bars
set_option maxRecDepth 20000 in
theorem ggX3_previous_X3_goes : GoodIn wsX3_previous wsX3_goes := goodIn_r _ [23, 13, 24, 25, 26, 27, 1, 6, 7, 4, 8, 15, 16, 17, 18, 19, 28, 29, 30, 31, 32, 33, 34, 35, 36, 37, 38, 39, 40, 41, 42, 43] (by decide +kernel) (by decide +kernel)
set_option maxRecDepth 20000 in
theorem gX3_previous_X3_goes : GoodIn wsX3_previous (wsV RX3 96 RX3 yX3_goes wsX3_goes) := goodIn_app (goodIn_of _ (by decide +kernel)) ggX3_previous_X3_goes
theorem dX3_previous_0 : decode cX3_previous 0 = .ok (.iload_n 1, 1) := by decide +kernel
theorem dX3_previous_1 : decode cX3_previous 1 = .ok (.invokestatic 90, 3) := by decide +kernel
theorem dX3_previous_4 : decode cX3_previous 4 = .ok (.ifCond .ne 5, 3) := by decide +kernel
theorem dX3_previous_7 : decode cX3_previous 7 = .ok (.iconst (-1), 1) := by decide +kernel
theorem dX3_previous_8 : decode cX3_previous 8 = .ok (.ireturn, 1) := by decide +kernel
theorem dX3_previous_9 : decode cX3_previous 9 = .ok (.aload_n 0, 1) := by decide +kernel
theorem dX3_previous_10 : decode cX3_previous 10 = .ok (.iload_n 1, 1) := by decide +kernel
theorem dX3_previous_11 : decode cX3_previous 11 = .ok (.invokevirtual 93, 3) := by decide +kernel
theorem dX3_previous_14 : decode cX3_previous 14 = .ok (.istore_n 2, 1) := by decide +kernel
theorem dX3_previous_15 : decode cX3_previous 15 = .ok (.iload_n 2, 1) := by decide +kernel
theorem dX3_previous_16 : decode cX3_previous 16 = .ok (.ifCond .ge 7, 3) := by decide +kernel
theorem dX3_previous_19 : decode cX3_previous 19 = .ok (.iload_n 2, 1) := by decide +kernel
theorem dX3_previous_20 : decode cX3_previous 20 = .ok (.goto 24, 3) := by decide +kernel
theorem dX3_previous_23 : decode cX3_previous 23 = .ok (.aload_n 0, 1) := by decide +kernel
theorem dX3_previous_24 : decode cX3_previous 24 = .ok (.iload_n 1, 1) := by decide +kernel
theorem dX3_previous_25 : decode cX3_previous 25 = .ok (.aload_n 0, 1) := by decide +kernel
theorem dX3_previous_26 : decode cX3_previous 26 = .ok (.getfield 22, 3) := by decide +kernel
theorem dX3_previous_29 : decode cX3_previous 29 = .ok (.iload_n 1, 1) := by decide +kernel
theorem dX3_previous_30 : decode cX3_previous 30 = .ok (.iaload, 1) := by decide +kernel
theorem dX3_previous_31 : decode cX3_previous 31 = .ok (.iconst 1, 1) := by decide +kernel
theorem dX3_previous_32 : decode cX3_previous 32 = .ok (.isub, 1) := by decide +kernel
theorem dX3_previous_33 : decode cX3_previous 33 = .ok (.aload_n 0, 1) := by decide +kernel
theorem dX3_previous_34 : decode cX3_previous 34 = .ok (.getfield 22, 3) := by decide +kernel
theorem dX3_previous_37 : decode cX3_previous 37 = .ok (.iload_n 1, 1) := by decide +kernel
theorem dX3_previous_38 : decode cX3_previous 38 = .ok (.iaload, 1) := by decide +kernel
theorem dX3_previous_39 : decode cX3_previous 39 = .ok (.iconst 1, 1) := by decide +kernel
theorem dX3_previous_40 : decode cX3_previous 40 = .ok (.isub, 1) := by decide +kernel
theorem dX3_previous_41 : decode cX3_previous 41 = .ok (.invokevirtual 96, 3) := by decide +kernel
theorem dX3_previous_44 : decode cX3_previous 44 = .ok (.ireturn, 1) := by decide +kernel
set_option maxRecDepth 20000 in
theorem ggX3_side_X3_isPeg : GoodIn wsX3_side wsX3_isPeg := goodIn_r _ [8, 9, 10, 7, 11] (by decide +kernel) (by decide +kernel)
set_option maxRecDepth 20000 in
theorem gX3_side_X3_isPeg : GoodIn wsX3_side (va_wsS RX3 90 yX3_isPeg wsX3_isPeg) := goodIn_app (goodIn_of _ (by decide +kernel)) ggX3_side_X3_isPeg
set_option maxRecDepth 20000 in
theorem ggX3_side_X3_in : GoodIn wsX3_side wsX3_in := goodIn_r _ [11] (by decide +kernel) (by decide +kernel)
set_option maxRecDepth 20000 in
theorem gX3_side_X3_in : GoodIn wsX3_side (va_wsS RX3 40 yX3_in wsX3_in) := goodIn_app (goodIn_of _ (by decide +kernel)) ggX3_side_X3_in
theorem dX3_side_0 : decode cX3_side 0 = .ok (.iload_n 1, 1) := by decide +kernel
theorem dX3_side_1 : decode cX3_side 1 = .ok (.invokestatic 90, 3) := by decide +kernel
theorem dX3_side_4 : decode cX3_side 4 = .ok (.ifCond .eq 12, 3) := by decide +kernel
theorem dX3_side_7 : decode cX3_side 7 = .ok (.iload_n 2, 1) := by decide +kernel
theorem dX3_side_8 : decode cX3_side 8 = .ok (.iconst 0, 1) := by decide +kernel
theorem dX3_side_9 : decode cX3_side 9 = .ok (.iconst 3, 1) := by decide +kernel
theorem dX3_side_10 : decode cX3_side 10 = .ok (.invokestatic 40, 3) := by decide +kernel
theorem dX3_side_13 : decode cX3_side 13 = .ok (.ifCond .ne 5, 3) := by decide +kernel
theorem dX3_side_16 : decode cX3_side 16 = .ok (.iconst (-1), 1) := by decide +kernel
theorem dX3_side_17 : decode cX3_side 17 = .ok (.ireturn, 1) := by decide +kernel
theorem dX3_side_18 : decode cX3_side 18 = .ok (.aload_n 0, 1) := by decide +kernel
theorem dX3_side_19 : decode cX3_side 19 = .ok (.getfield 19, 3) := by decide +kernel
theorem dX3_side_22 : decode cX3_side 22 = .ok (.iload_n 1, 1) := by decide +kernel
theorem dX3_side_23 : decode cX3_side 23 = .ok (.iaload, 1) := by decide +kernel
theorem dX3_side_24 : decode cX3_side 24 = .ok (.iconst (-1), 1) := by decide +kernel
theorem dX3_side_25 : decode cX3_side 25 = .ok (.if_icmp .ne 6, 3) := by decide +kernel
theorem dX3_side_28 : decode cX3_side 28 = .ok (.bipush (-2), 2) := by decide +kernel
theorem dX3_side_30 : decode cX3_side 30 = .ok (.ireturn, 1) := by decide +kernel
theorem dX3_side_31 : decode cX3_side 31 = .ok (.aload_n 0, 1) := by decide +kernel
theorem dX3_side_32 : decode cX3_side 32 = .ok (.getfield 34, 3) := by decide +kernel
theorem dX3_side_35 : decode cX3_side 35 = .ok (.iload_n 1, 1) := by decide +kernel
theorem dX3_side_36 : decode cX3_side 36 = .ok (.iaload, 1) := by decide +kernel
theorem dX3_side_37 : decode cX3_side 37 = .ok (.iconst 1, 1) := by decide +kernel
theorem dX3_side_38 : decode cX3_side 38 = .ok (.if_icmp .ne 6, 3) := by decide +kernel
theorem dX3_side_41 : decode cX3_side 41 = .ok (.bipush (-4), 2) := by decide +kernel
theorem dX3_side_43 : decode cX3_side 43 = .ok (.ireturn, 1) := by decide +kernel
theorem dX3_side_44 : decode cX3_side 44 = .ok (.iload_n 2, 1) := by decide +kernel
theorem dX3_side_45 : decode cX3_side 45 = .ok (.iconst 1, 1) := by decide +kernel
theorem dX3_side_46 : decode cX3_side 46 = .ok (.if_icmp .le 10, 3) := by decide +kernel
theorem dX3_side_49 : decode cX3_side 49 = .ok (.aload_n 0, 1) := by decide +kernel
theorem dX3_side_50 : decode cX3_side 50 = .ok (.getfield 22, 3) := by decide +kernel
theorem dX3_side_53 : decode cX3_side 53 = .ok (.iload_n 1, 1) := by decide +kernel
theorem dX3_side_54 : decode cX3_side 54 = .ok (.iaload, 1) := by decide +kernel
theorem dX3_side_55 : decode cX3_side 55 = .ok (.ireturn, 1) := by decide +kernel
theorem dX3_side_56 : decode cX3_side 56 = .ok (.iload_n 2, 1) := by decide +kernel
theorem dX3_side_57 : decode cX3_side 57 = .ok (.ifCond .ne 31, 3) := by decide +kernel
theorem dX3_side_60 : decode cX3_side 60 = .ok (.aload_n 0, 1) := by decide +kernel
theorem dX3_side_61 : decode cX3_side 61 = .ok (.getfield 22, 3) := by decide +kernel
theorem dX3_side_64 : decode cX3_side 64 = .ok (.iload_n 1, 1) := by decide +kernel
theorem dX3_side_65 : decode cX3_side 65 = .ok (.iaload, 1) := by decide +kernel
theorem dX3_side_66 : decode cX3_side 66 = .ok (.aload_n 0, 1) := by decide +kernel
theorem dX3_side_67 : decode cX3_side 67 = .ok (.getfield 13, 3) := by decide +kernel
theorem dX3_side_70 : decode cX3_side 70 = .ok (.aload_n 0, 1) := by decide +kernel
theorem dX3_side_71 : decode cX3_side 71 = .ok (.getfield 19, 3) := by decide +kernel
theorem dX3_side_74 : decode cX3_side 74 = .ok (.iload_n 1, 1) := by decide +kernel
theorem dX3_side_75 : decode cX3_side 75 = .ok (.iaload, 1) := by decide +kernel
theorem dX3_side_76 : decode cX3_side 76 = .ok (.iaload, 1) := by decide +kernel
theorem dX3_side_77 : decode cX3_side 77 = .ok (.if_icmp .ge 7, 3) := by decide +kernel
theorem dX3_side_80 : decode cX3_side 80 = .ok (.iconst 1, 1) := by decide +kernel
theorem dX3_side_81 : decode cX3_side 81 = .ok (.goto 21, 3) := by decide +kernel
theorem dX3_side_84 : decode cX3_side 84 = .ok (.iconst 0, 1) := by decide +kernel
theorem dX3_side_85 : decode cX3_side 85 = .ok (.goto 17, 3) := by decide +kernel
theorem dX3_side_88 : decode cX3_side 88 = .ok (.aload_n 0, 1) := by decide +kernel
theorem dX3_side_89 : decode cX3_side 89 = .ok (.getfield 22, 3) := by decide +kernel
theorem dX3_side_92 : decode cX3_side 92 = .ok (.iload_n 1, 1) := by decide +kernel
theorem dX3_side_93 : decode cX3_side 93 = .ok (.iaload, 1) := by decide +kernel
theorem dX3_side_94 : decode cX3_side 94 = .ok (.ifCond .le 7, 3) := by decide +kernel
theorem dX3_side_97 : decode cX3_side 97 = .ok (.iconst 1, 1) := by decide +kernel
theorem dX3_side_98 : decode cX3_side 98 = .ok (.goto 4, 3) := by decide +kernel
theorem dX3_side_101 : decode cX3_side 101 = .ok (.iconst 0, 1) := by decide +kernel
theorem dX3_side_102 : decode cX3_side 102 = .ok (.istore_n 3, 1) := by decide +kernel
theorem dX3_side_103 : decode cX3_side 103 = .ok (.iload_n 3, 1) := by decide +kernel
theorem dX3_side_104 : decode cX3_side 104 = .ok (.ifCond .eq 7, 3) := by decide +kernel
theorem dX3_side_107 : decode cX3_side 107 = .ok (.iconst 1, 1) := by decide +kernel
theorem dX3_side_108 : decode cX3_side 108 = .ok (.goto 4, 3) := by decide +kernel
theorem dX3_side_111 : decode cX3_side 111 = .ok (.iconst 0, 1) := by decide +kernel
theorem dX3_side_112 : decode cX3_side 112 = .ok (.ireturn, 1) := by decide +kernel
set_option maxRecDepth 20000 in
theorem ggX3_barsHand_X3_bars : GoodIn wsX3_barsHand wsX3_bars := goodIn_r _ [9, 3, 10, 11, 12, 13, 8, 14, 15, 21, 22, 23, 24, 25, 26, 27, 28, 29, 30, 31] (by decide +kernel) (by decide +kernel)
set_option maxRecDepth 20000 in
theorem gX3_barsHand_X3_bars : GoodIn wsX3_barsHand (wsV RX3 93 RX3 yX3_bars wsX3_bars) := goodIn_app (goodIn_of _ (by decide +kernel)) ggX3_barsHand_X3_bars
set_option maxRecDepth 20000 in
theorem ggX3_barsHand_X3_refuse : GoodIn wsX3_barsHand wsX3_refuse := goodIn_r _ [14, 15, 21, 22, 23, 24, 25, 26, 27, 28, 29, 30, 31] (by decide +kernel) (by decide +kernel)
set_option maxRecDepth 20000 in
theorem gX3_barsHand_X3_refuse : GoodIn wsX3_barsHand (wsV RX3 71 RX3 yX3_refuse wsX3_refuse) := goodIn_app (goodIn_of _ (by decide +kernel)) ggX3_barsHand_X3_refuse
set_option maxRecDepth 20000 in
theorem ggX3_barsHand_X3_thing : GoodIn wsX3_barsHand wsX3_thing := goodIn_r _ [19, 20, 21, 22, 23, 24, 25, 26, 27, 28, 29, 30, 31] (by decide +kernel) (by decide +kernel)
set_option maxRecDepth 20000 in
theorem gX3_barsHand_X3_thing : GoodIn wsX3_barsHand (wsV RX3 48 RX3 yX3_thing wsX3_thing) := goodIn_app (goodIn_of _ (by decide +kernel)) ggX3_barsHand_X3_thing
theorem dX3_barsHand_0 : decode cX3_barsHand 0 = .ok (.aload_n 0, 1) := by decide +kernel
theorem dX3_barsHand_1 : decode cX3_barsHand 1 = .ok (.iload_n 1, 1) := by decide +kernel
theorem dX3_barsHand_2 : decode cX3_barsHand 2 = .ok (.invokevirtual 93, 3) := by decide +kernel
theorem dX3_barsHand_5 : decode cX3_barsHand 5 = .ok (.istore_n 2, 1) := by decide +kernel
theorem dX3_barsHand_6 : decode cX3_barsHand 6 = .ok (.iload_n 2, 1) := by decide +kernel
theorem dX3_barsHand_7 : decode cX3_barsHand 7 = .ok (.ifCond .ge 5, 3) := by decide +kernel
theorem dX3_barsHand_10 : decode cX3_barsHand 10 = .ok (.iload_n 2, 1) := by decide +kernel
theorem dX3_barsHand_11 : decode cX3_barsHand 11 = .ok (.ireturn, 1) := by decide +kernel
theorem dX3_barsHand_12 : decode cX3_barsHand 12 = .ok (.aload_n 0, 1) := by decide +kernel
theorem dX3_barsHand_13 : decode cX3_barsHand 13 = .ok (.getfield 31, 3) := by decide +kernel
theorem dX3_barsHand_16 : decode cX3_barsHand 16 = .ok (.iload_n 1, 1) := by decide +kernel
theorem dX3_barsHand_17 : decode cX3_barsHand 17 = .ok (.iaload, 1) := by decide +kernel
theorem dX3_barsHand_18 : decode cX3_barsHand 18 = .ok (.iconst 1, 1) := by decide +kernel
theorem dX3_barsHand_19 : decode cX3_barsHand 19 = .ok (.if_icmp .ne 6, 3) := by decide +kernel
theorem dX3_barsHand_22 : decode cX3_barsHand 22 = .ok (.bipush (-8), 2) := by decide +kernel
theorem dX3_barsHand_24 : decode cX3_barsHand 24 = .ok (.ireturn, 1) := by decide +kernel
theorem dX3_barsHand_25 : decode cX3_barsHand 25 = .ok (.aload_n 0, 1) := by decide +kernel
theorem dX3_barsHand_26 : decode cX3_barsHand 26 = .ok (.getfield 25, 3) := by decide +kernel
theorem dX3_barsHand_29 : decode cX3_barsHand 29 = .ok (.iload_n 1, 1) := by decide +kernel
theorem dX3_barsHand_30 : decode cX3_barsHand 30 = .ok (.iaload, 1) := by decide +kernel
theorem dX3_barsHand_31 : decode cX3_barsHand 31 = .ok (.iconst (-1), 1) := by decide +kernel
theorem dX3_barsHand_32 : decode cX3_barsHand 32 = .ok (.if_icmp .ne 11, 3) := by decide +kernel
theorem dX3_barsHand_35 : decode cX3_barsHand 35 = .ok (.aload_n 0, 1) := by decide +kernel
theorem dX3_barsHand_36 : decode cX3_barsHand 36 = .ok (.iconst 2, 1) := by decide +kernel
theorem dX3_barsHand_37 : decode cX3_barsHand 37 = .ok (.bipush (-7), 2) := by decide +kernel
theorem dX3_barsHand_39 : decode cX3_barsHand 39 = .ok (.invokevirtual 71, 3) := by decide +kernel
theorem dX3_barsHand_42 : decode cX3_barsHand 42 = .ok (.ireturn, 1) := by decide +kernel
theorem dX3_barsHand_43 : decode cX3_barsHand 43 = .ok (.aload_n 0, 1) := by decide +kernel
theorem dX3_barsHand_44 : decode cX3_barsHand 44 = .ok (.aload_n 0, 1) := by decide +kernel
theorem dX3_barsHand_45 : decode cX3_barsHand 45 = .ok (.getfield 19, 3) := by decide +kernel
theorem dX3_barsHand_48 : decode cX3_barsHand 48 = .ok (.iload_n 1, 1) := by decide +kernel
theorem dX3_barsHand_49 : decode cX3_barsHand 49 = .ok (.iaload, 1) := by decide +kernel
theorem dX3_barsHand_50 : decode cX3_barsHand 50 = .ok (.aload_n 0, 1) := by decide +kernel
theorem dX3_barsHand_51 : decode cX3_barsHand 51 = .ok (.getfield 28, 3) := by decide +kernel
theorem dX3_barsHand_54 : decode cX3_barsHand 54 = .ok (.iload_n 1, 1) := by decide +kernel
theorem dX3_barsHand_55 : decode cX3_barsHand 55 = .ok (.iaload, 1) := by decide +kernel
theorem dX3_barsHand_56 : decode cX3_barsHand 56 = .ok (.invokevirtual 48, 3) := by decide +kernel
theorem dX3_barsHand_59 : decode cX3_barsHand 59 = .ok (.aload_n 0, 1) := by decide +kernel
theorem dX3_barsHand_60 : decode cX3_barsHand 60 = .ok (.getfield 25, 3) := by decide +kernel
theorem dX3_barsHand_63 : decode cX3_barsHand 63 = .ok (.iload_n 1, 1) := by decide +kernel
theorem dX3_barsHand_64 : decode cX3_barsHand 64 = .ok (.iaload, 1) := by decide +kernel
theorem dX3_barsHand_65 : decode cX3_barsHand 65 = .ok (.if_icmp .ne 7, 3) := by decide +kernel
theorem dX3_barsHand_68 : decode cX3_barsHand 68 = .ok (.iconst 0, 1) := by decide +kernel
theorem dX3_barsHand_69 : decode cX3_barsHand 69 = .ok (.goto 5, 3) := by decide +kernel
theorem dX3_barsHand_72 : decode cX3_barsHand 72 = .ok (.bipush (-8), 2) := by decide +kernel
theorem dX3_barsHand_74 : decode cX3_barsHand 74 = .ok (.ireturn, 1) := by decide +kernel
set_option maxRecDepth 20000 in
theorem ggX3_change_X3_isPeg : GoodIn wsX3_change wsX3_isPeg := goodIn_r _ [8, 9, 10, 7, 11] (by decide +kernel) (by decide +kernel)
set_option maxRecDepth 20000 in
theorem gX3_change_X3_isPeg : GoodIn wsX3_change (va_wsS RX3 90 yX3_isPeg wsX3_isPeg) := goodIn_app (goodIn_of _ (by decide +kernel)) ggX3_change_X3_isPeg
set_option maxRecDepth 20000 in
theorem ggX3_change_X3_isName : GoodIn wsX3_change wsX3_isName := goodIn_r _ [14, 9, 10, 7, 11] (by decide +kernel) (by decide +kernel)
set_option maxRecDepth 20000 in
theorem gX3_change_X3_isName : GoodIn wsX3_change (va_wsS RX3 56 yX3_isName wsX3_isName) := goodIn_app (goodIn_of _ (by decide +kernel)) ggX3_change_X3_isName
set_option maxRecDepth 20000 in
theorem ggX3_change_X3_barsHand : GoodIn wsX3_change wsX3_barsHand := goodIn_r _ [18, 19, 1, 3, 4, 20, 21, 22, 7, 23, 24, 25, 26, 27, 28, 29, 30, 31, 32, 33, 2, 39, 40, 41, 42, 43, 44, 45, 46, 47, 48, 49] (by decide +kernel) (by decide +kernel)
set_option maxRecDepth 20000 in
theorem gX3_change_X3_barsHand : GoodIn wsX3_change (wsV RX3 100 RX3 yX3_barsHand wsX3_barsHand) := goodIn_app (goodIn_of _ (by decide +kernel)) ggX3_change_X3_barsHand
set_option maxRecDepth 20000 in
theorem ggX3_change_X3_make : GoodIn wsX3_change wsX3_make := goodIn_r _ [37, 38, 39, 40, 41, 42, 43, 44, 45, 46, 47, 48, 49] (by decide +kernel) (by decide +kernel)
set_option maxRecDepth 20000 in
theorem gX3_change_X3_make : GoodIn wsX3_change (wsV RX3 59 RX3 yX3_make wsX3_make) := goodIn_app (goodIn_of _ (by decide +kernel)) ggX3_change_X3_make
theorem dX3_change_0 : decode cX3_change 0 = .ok (.iload_n 1, 1) := by decide +kernel
theorem dX3_change_1 : decode cX3_change 1 = .ok (.invokestatic 90, 3) := by decide +kernel
theorem dX3_change_4 : decode cX3_change 4 = .ok (.ifCond .eq 10, 3) := by decide +kernel
theorem dX3_change_7 : decode cX3_change 7 = .ok (.iload_n 2, 1) := by decide +kernel
theorem dX3_change_8 : decode cX3_change 8 = .ok (.invokestatic 56, 3) := by decide +kernel
theorem dX3_change_11 : decode cX3_change 11 = .ok (.ifCond .ne 5, 3) := by decide +kernel
theorem dX3_change_14 : decode cX3_change 14 = .ok (.iconst (-1), 1) := by decide +kernel
theorem dX3_change_15 : decode cX3_change 15 = .ok (.ireturn, 1) := by decide +kernel
theorem dX3_change_16 : decode cX3_change 16 = .ok (.aload_n 0, 1) := by decide +kernel
theorem dX3_change_17 : decode cX3_change 17 = .ok (.iload_n 1, 1) := by decide +kernel
theorem dX3_change_18 : decode cX3_change 18 = .ok (.invokevirtual 100, 3) := by decide +kernel
theorem dX3_change_21 : decode cX3_change 21 = .ok (.istore_n 3, 1) := by decide +kernel
theorem dX3_change_22 : decode cX3_change 22 = .ok (.iload_n 3, 1) := by decide +kernel
theorem dX3_change_23 : decode cX3_change 23 = .ok (.ifCond .ge 5, 3) := by decide +kernel
theorem dX3_change_26 : decode cX3_change 26 = .ok (.iload_n 3, 1) := by decide +kernel
theorem dX3_change_27 : decode cX3_change 27 = .ok (.ireturn, 1) := by decide +kernel
theorem dX3_change_28 : decode cX3_change 28 = .ok (.aload_n 0, 1) := by decide +kernel
theorem dX3_change_29 : decode cX3_change 29 = .ok (.getfield 25, 3) := by decide +kernel
theorem dX3_change_32 : decode cX3_change 32 = .ok (.iload_n 1, 1) := by decide +kernel
theorem dX3_change_33 : decode cX3_change 33 = .ok (.iaload, 1) := by decide +kernel
theorem dX3_change_34 : decode cX3_change 34 = .ok (.istore 4, 2) := by decide +kernel
theorem dX3_change_36 : decode cX3_change 36 = .ok (.aload_n 0, 1) := by decide +kernel
theorem dX3_change_37 : decode cX3_change 37 = .ok (.getfield 25, 3) := by decide +kernel
theorem dX3_change_40 : decode cX3_change 40 = .ok (.iload_n 1, 1) := by decide +kernel
theorem dX3_change_41 : decode cX3_change 41 = .ok (.aload_n 0, 1) := by decide +kernel
theorem dX3_change_42 : decode cX3_change 42 = .ok (.iload_n 2, 1) := by decide +kernel
theorem dX3_change_43 : decode cX3_change 43 = .ok (.invokevirtual 59, 3) := by decide +kernel
theorem dX3_change_46 : decode cX3_change 46 = .ok (.iastore, 1) := by decide +kernel
theorem dX3_change_47 : decode cX3_change 47 = .ok (.aload_n 0, 1) := by decide +kernel
theorem dX3_change_48 : decode cX3_change 48 = .ok (.getfield 7, 3) := by decide +kernel
theorem dX3_change_51 : decode cX3_change 51 = .ok (.bipush 64, 2) := by decide +kernel
theorem dX3_change_53 : decode cX3_change 53 = .ok (.aload_n 0, 1) := by decide +kernel
theorem dX3_change_54 : decode cX3_change 54 = .ok (.getfield 19, 3) := by decide +kernel
theorem dX3_change_57 : decode cX3_change 57 = .ok (.iload_n 1, 1) := by decide +kernel
theorem dX3_change_58 : decode cX3_change 58 = .ok (.iaload, 1) := by decide +kernel
theorem dX3_change_59 : decode cX3_change 59 = .ok (.imul, 1) := by decide +kernel
theorem dX3_change_60 : decode cX3_change 60 = .ok (.aload_n 0, 1) := by decide +kernel
theorem dX3_change_61 : decode cX3_change 61 = .ok (.getfield 28, 3) := by decide +kernel
theorem dX3_change_64 : decode cX3_change 64 = .ok (.iload_n 1, 1) := by decide +kernel
theorem dX3_change_65 : decode cX3_change 65 = .ok (.iaload, 1) := by decide +kernel
theorem dX3_change_66 : decode cX3_change 66 = .ok (.iadd, 1) := by decide +kernel
theorem dX3_change_67 : decode cX3_change 67 = .ok (.aload_n 0, 1) := by decide +kernel
theorem dX3_change_68 : decode cX3_change 68 = .ok (.getfield 25, 3) := by decide +kernel
theorem dX3_change_71 : decode cX3_change 71 = .ok (.iload_n 1, 1) := by decide +kernel
theorem dX3_change_72 : decode cX3_change 72 = .ok (.iaload, 1) := by decide +kernel
theorem dX3_change_73 : decode cX3_change 73 = .ok (.iastore, 1) := by decide +kernel
theorem dX3_change_74 : decode cX3_change 74 = .ok (.iload 4, 2) := by decide +kernel
theorem dX3_change_76 : decode cX3_change 76 = .ok (.ireturn, 1) := by decide +kernel
set_option maxRecDepth 20000 in
theorem ggX3_add_X3_isPeg : GoodIn wsX3_add wsX3_isPeg := goodIn_r _ [9, 10, 11, 8, 12] (by decide +kernel) (by decide +kernel)
set_option maxRecDepth 20000 in
theorem gX3_add_X3_isPeg : GoodIn wsX3_add (va_wsS RX3 90 yX3_isPeg wsX3_isPeg) := goodIn_app (goodIn_of _ (by decide +kernel)) ggX3_add_X3_isPeg
set_option maxRecDepth 20000 in
theorem ggX3_add_X3_isName : GoodIn wsX3_add wsX3_isName := goodIn_r _ [15, 10, 11, 8, 12] (by decide +kernel) (by decide +kernel)
set_option maxRecDepth 20000 in
theorem gX3_add_X3_isName : GoodIn wsX3_add (va_wsS RX3 56 yX3_isName wsX3_isName) := goodIn_app (goodIn_of _ (by decide +kernel)) ggX3_add_X3_isName
set_option maxRecDepth 20000 in
theorem ggX3_add_X3_bars : GoodIn wsX3_add wsX3_bars := goodIn_r _ [19, 1, 20, 21, 22, 23, 8, 24, 25, 44, 45, 46, 47, 48, 49, 50, 51, 52, 53, 54] (by decide +kernel) (by decide +kernel)
set_option maxRecDepth 20000 in
theorem gX3_add_X3_bars : GoodIn wsX3_add (wsV RX3 93 RX3 yX3_bars wsX3_bars) := goodIn_app (goodIn_of _ (by decide +kernel)) ggX3_add_X3_bars
set_option maxRecDepth 20000 in
theorem ggX3_add_X3_make : GoodIn wsX3_add wsX3_make := goodIn_r _ [29, 30, 44, 45, 46, 47, 48, 49, 50, 51, 52, 53, 54] (by decide +kernel) (by decide +kernel)
set_option maxRecDepth 20000 in
theorem gX3_add_X3_make : GoodIn wsX3_add (wsV RX3 59 RX3 yX3_make wsX3_make) := goodIn_app (goodIn_of _ (by decide +kernel)) ggX3_add_X3_make
set_option maxRecDepth 20000 in
theorem ggX3_add_X3_open : GoodIn wsX3_add wsX3_open := goodIn_r _ [34, 2, 35, 36, 37, 38, 8, 39, 44, 45, 46, 47, 48, 49, 50, 51, 52, 53, 54] (by decide +kernel) (by decide +kernel)
set_option maxRecDepth 20000 in
theorem gX3_add_X3_open : GoodIn wsX3_add (wsV RX3 63 RX3 yX3_open wsX3_open) := goodIn_app (goodIn_of _ (by decide +kernel)) ggX3_add_X3_open
set_option maxRecDepth 20000 in
theorem ggX3_add_X3_age : GoodIn wsX3_add wsX3_age := goodIn_r _ [43, 20, 1, 44, 45, 46, 47, 48, 49, 50, 51, 52, 53, 54] (by decide +kernel) (by decide +kernel)
set_option maxRecDepth 20000 in
theorem gX3_add_X3_age : GoodIn wsX3_add (wsV RX3 67 RX3 yX3_age wsX3_age) := goodIn_app (goodIn_of _ (by decide +kernel)) ggX3_add_X3_age
theorem dX3_add_0 : decode cX3_add 0 = .ok (.iload_n 1, 1) := by decide +kernel
theorem dX3_add_1 : decode cX3_add 1 = .ok (.invokestatic 90, 3) := by decide +kernel
theorem dX3_add_4 : decode cX3_add 4 = .ok (.ifCond .eq 10, 3) := by decide +kernel
theorem dX3_add_7 : decode cX3_add 7 = .ok (.iload_n 2, 1) := by decide +kernel
theorem dX3_add_8 : decode cX3_add 8 = .ok (.invokestatic 56, 3) := by decide +kernel
theorem dX3_add_11 : decode cX3_add 11 = .ok (.ifCond .ne 5, 3) := by decide +kernel
theorem dX3_add_14 : decode cX3_add 14 = .ok (.iconst (-1), 1) := by decide +kernel
theorem dX3_add_15 : decode cX3_add 15 = .ok (.ireturn, 1) := by decide +kernel
theorem dX3_add_16 : decode cX3_add 16 = .ok (.aload_n 0, 1) := by decide +kernel
theorem dX3_add_17 : decode cX3_add 17 = .ok (.getfield 19, 3) := by decide +kernel
theorem dX3_add_20 : decode cX3_add 20 = .ok (.iload_n 1, 1) := by decide +kernel
theorem dX3_add_21 : decode cX3_add 21 = .ok (.iaload, 1) := by decide +kernel
theorem dX3_add_22 : decode cX3_add 22 = .ok (.istore_n 3, 1) := by decide +kernel
theorem dX3_add_23 : decode cX3_add 23 = .ok (.iload_n 3, 1) := by decide +kernel
theorem dX3_add_24 : decode cX3_add 24 = .ok (.iconst (-1), 1) := by decide +kernel
theorem dX3_add_25 : decode cX3_add 25 = .ok (.if_icmp .ne 6, 3) := by decide +kernel
theorem dX3_add_28 : decode cX3_add 28 = .ok (.bipush (-2), 2) := by decide +kernel
theorem dX3_add_30 : decode cX3_add 30 = .ok (.ireturn, 1) := by decide +kernel
theorem dX3_add_31 : decode cX3_add 31 = .ok (.aload_n 0, 1) := by decide +kernel
theorem dX3_add_32 : decode cX3_add 32 = .ok (.getfield 13, 3) := by decide +kernel
theorem dX3_add_35 : decode cX3_add 35 = .ok (.iload_n 3, 1) := by decide +kernel
theorem dX3_add_36 : decode cX3_add 36 = .ok (.iaload, 1) := by decide +kernel
theorem dX3_add_37 : decode cX3_add 37 = .ok (.bipush 60, 2) := by decide +kernel
theorem dX3_add_39 : decode cX3_add 39 = .ok (.if_icmp .ne 6, 3) := by decide +kernel
theorem dX3_add_42 : decode cX3_add 42 = .ok (.bipush (-3), 2) := by decide +kernel
theorem dX3_add_44 : decode cX3_add 44 = .ok (.ireturn, 1) := by decide +kernel
theorem dX3_add_45 : decode cX3_add 45 = .ok (.aload_n 0, 1) := by decide +kernel
theorem dX3_add_46 : decode cX3_add 46 = .ok (.iload_n 1, 1) := by decide +kernel
theorem dX3_add_47 : decode cX3_add 47 = .ok (.invokevirtual 93, 3) := by decide +kernel
theorem dX3_add_50 : decode cX3_add 50 = .ok (.istore 4, 2) := by decide +kernel
theorem dX3_add_52 : decode cX3_add 52 = .ok (.iload 4, 2) := by decide +kernel
theorem dX3_add_54 : decode cX3_add 54 = .ok (.ifCond .ge 6, 3) := by decide +kernel
theorem dX3_add_57 : decode cX3_add 57 = .ok (.iload 4, 2) := by decide +kernel
theorem dX3_add_59 : decode cX3_add 59 = .ok (.ireturn, 1) := by decide +kernel
theorem dX3_add_60 : decode cX3_add 60 = .ok (.aload_n 0, 1) := by decide +kernel
theorem dX3_add_61 : decode cX3_add 61 = .ok (.iload_n 3, 1) := by decide +kernel
theorem dX3_add_62 : decode cX3_add 62 = .ok (.aload_n 0, 1) := by decide +kernel
theorem dX3_add_63 : decode cX3_add 63 = .ok (.getfield 22, 3) := by decide +kernel
theorem dX3_add_66 : decode cX3_add 66 = .ok (.iload_n 1, 1) := by decide +kernel
theorem dX3_add_67 : decode cX3_add 67 = .ok (.iaload, 1) := by decide +kernel
theorem dX3_add_68 : decode cX3_add 68 = .ok (.aload_n 0, 1) := by decide +kernel
theorem dX3_add_69 : decode cX3_add 69 = .ok (.iload_n 2, 1) := by decide +kernel
theorem dX3_add_70 : decode cX3_add 70 = .ok (.invokevirtual 59, 3) := by decide +kernel
theorem dX3_add_73 : decode cX3_add 73 = .ok (.invokevirtual 63, 3) := by decide +kernel
theorem dX3_add_76 : decode cX3_add 76 = .ok (.aload_n 0, 1) := by decide +kernel
theorem dX3_add_77 : decode cX3_add 77 = .ok (.getfield 22, 3) := by decide +kernel
theorem dX3_add_80 : decode cX3_add 80 = .ok (.iload_n 1, 1) := by decide +kernel
theorem dX3_add_81 : decode cX3_add 81 = .ok (.dup2, 1) := by decide +kernel
theorem dX3_add_82 : decode cX3_add 82 = .ok (.iaload, 1) := by decide +kernel
theorem dX3_add_83 : decode cX3_add 83 = .ok (.iconst 1, 1) := by decide +kernel
theorem dX3_add_84 : decode cX3_add 84 = .ok (.iadd, 1) := by decide +kernel
theorem dX3_add_85 : decode cX3_add 85 = .ok (.iastore, 1) := by decide +kernel
theorem dX3_add_86 : decode cX3_add 86 = .ok (.aload_n 0, 1) := by decide +kernel
theorem dX3_add_87 : decode cX3_add 87 = .ok (.getfield 25, 3) := by decide +kernel
theorem dX3_add_90 : decode cX3_add 90 = .ok (.iload_n 1, 1) := by decide +kernel
theorem dX3_add_91 : decode cX3_add 91 = .ok (.iconst (-1), 1) := by decide +kernel
theorem dX3_add_92 : decode cX3_add 92 = .ok (.iastore, 1) := by decide +kernel
theorem dX3_add_93 : decode cX3_add 93 = .ok (.aload_n 0, 1) := by decide +kernel
theorem dX3_add_94 : decode cX3_add 94 = .ok (.getfield 31, 3) := by decide +kernel
theorem dX3_add_97 : decode cX3_add 97 = .ok (.iload_n 1, 1) := by decide +kernel
theorem dX3_add_98 : decode cX3_add 98 = .ok (.iconst 0, 1) := by decide +kernel
theorem dX3_add_99 : decode cX3_add 99 = .ok (.iastore, 1) := by decide +kernel
theorem dX3_add_100 : decode cX3_add 100 = .ok (.aload_n 0, 1) := by decide +kernel
theorem dX3_add_101 : decode cX3_add 101 = .ok (.iload_n 3, 1) := by decide +kernel
theorem dX3_add_102 : decode cX3_add 102 = .ok (.iload_n 1, 1) := by decide +kernel
theorem dX3_add_103 : decode cX3_add 103 = .ok (.invokevirtual 67, 3) := by decide +kernel
theorem dX3_add_106 : decode cX3_add 106 = .ok (.aload_n 0, 1) := by decide +kernel
theorem dX3_add_107 : decode cX3_add 107 = .ok (.getfield 13, 3) := by decide +kernel
theorem dX3_add_110 : decode cX3_add 110 = .ok (.iload_n 3, 1) := by decide +kernel
theorem dX3_add_111 : decode cX3_add 111 = .ok (.iaload, 1) := by decide +kernel
theorem dX3_add_112 : decode cX3_add 112 = .ok (.ireturn, 1) := by decide +kernel
set_option maxRecDepth 20000 in
theorem ggX3_remove_X3_isPeg : GoodIn wsX3_remove wsX3_isPeg := goodIn_r _ [8, 9, 10, 7, 11] (by decide +kernel) (by decide +kernel)
set_option maxRecDepth 20000 in
theorem gX3_remove_X3_isPeg : GoodIn wsX3_remove (va_wsS RX3 90 yX3_isPeg wsX3_isPeg) := goodIn_app (goodIn_of _ (by decide +kernel)) ggX3_remove_X3_isPeg
set_option maxRecDepth 20000 in
theorem ggX3_remove_X3_barsHand : GoodIn wsX3_remove wsX3_barsHand := goodIn_r _ [15, 16, 4, 1, 2, 17, 18, 19, 7, 20, 21, 22, 23, 24, 25, 26, 27, 28, 29, 30, 31, 41, 42, 43, 44, 45, 46, 47, 48, 49, 50, 51] (by decide +kernel) (by decide +kernel)
set_option maxRecDepth 20000 in
theorem gX3_remove_X3_barsHand : GoodIn wsX3_remove (wsV RX3 100 RX3 yX3_barsHand wsX3_barsHand) := goodIn_app (goodIn_of _ (by decide +kernel)) ggX3_remove_X3_barsHand
set_option maxRecDepth 20000 in
theorem ggX3_remove_X3_close : GoodIn wsX3_remove wsX3_close := goodIn_r _ [35, 36, 31, 27, 28, 29, 7, 30, 41, 42, 43, 44, 45, 46, 47, 48, 49, 50, 51] (by decide +kernel) (by decide +kernel)
set_option maxRecDepth 20000 in
theorem gX3_remove_X3_close : GoodIn wsX3_remove (wsV RX3 74 RX3 yX3_close wsX3_close) := goodIn_app (goodIn_of _ (by decide +kernel)) ggX3_remove_X3_close
set_option maxRecDepth 20000 in
theorem ggX3_remove_X3_age : GoodIn wsX3_remove wsX3_age := goodIn_r _ [40, 21, 1, 41, 42, 43, 44, 45, 46, 47, 48, 49, 50, 51] (by decide +kernel) (by decide +kernel)
set_option maxRecDepth 20000 in
theorem gX3_remove_X3_age : GoodIn wsX3_remove (wsV RX3 67 RX3 yX3_age wsX3_age) := goodIn_app (goodIn_of _ (by decide +kernel)) ggX3_remove_X3_age
theorem dX3_remove_0 : decode cX3_remove 0 = .ok (.iload_n 1, 1) := by decide +kernel
theorem dX3_remove_1 : decode cX3_remove 1 = .ok (.invokestatic 90, 3) := by decide +kernel
theorem dX3_remove_4 : decode cX3_remove 4 = .ok (.ifCond .ne 5, 3) := by decide +kernel
theorem dX3_remove_7 : decode cX3_remove 7 = .ok (.iconst (-1), 1) := by decide +kernel
theorem dX3_remove_8 : decode cX3_remove 8 = .ok (.ireturn, 1) := by decide +kernel
theorem dX3_remove_9 : decode cX3_remove 9 = .ok (.aload_n 0, 1) := by decide +kernel
theorem dX3_remove_10 : decode cX3_remove 10 = .ok (.iload_n 1, 1) := by decide +kernel
theorem dX3_remove_11 : decode cX3_remove 11 = .ok (.invokevirtual 100, 3) := by decide +kernel
theorem dX3_remove_14 : decode cX3_remove 14 = .ok (.istore_n 2, 1) := by decide +kernel
theorem dX3_remove_15 : decode cX3_remove 15 = .ok (.iload_n 2, 1) := by decide +kernel
theorem dX3_remove_16 : decode cX3_remove 16 = .ok (.ifCond .ge 5, 3) := by decide +kernel
theorem dX3_remove_19 : decode cX3_remove 19 = .ok (.iload_n 2, 1) := by decide +kernel
theorem dX3_remove_20 : decode cX3_remove 20 = .ok (.ireturn, 1) := by decide +kernel
theorem dX3_remove_21 : decode cX3_remove 21 = .ok (.aload_n 0, 1) := by decide +kernel
theorem dX3_remove_22 : decode cX3_remove 22 = .ok (.aload_n 0, 1) := by decide +kernel
theorem dX3_remove_23 : decode cX3_remove 23 = .ok (.getfield 19, 3) := by decide +kernel
theorem dX3_remove_26 : decode cX3_remove 26 = .ok (.iload_n 1, 1) := by decide +kernel
theorem dX3_remove_27 : decode cX3_remove 27 = .ok (.iaload, 1) := by decide +kernel
theorem dX3_remove_28 : decode cX3_remove 28 = .ok (.aload_n 0, 1) := by decide +kernel
theorem dX3_remove_29 : decode cX3_remove 29 = .ok (.getfield 28, 3) := by decide +kernel
theorem dX3_remove_32 : decode cX3_remove 32 = .ok (.iload_n 1, 1) := by decide +kernel
theorem dX3_remove_33 : decode cX3_remove 33 = .ok (.iaload, 1) := by decide +kernel
theorem dX3_remove_34 : decode cX3_remove 34 = .ok (.invokevirtual 74, 3) := by decide +kernel
theorem dX3_remove_37 : decode cX3_remove 37 = .ok (.istore_n 3, 1) := by decide +kernel
theorem dX3_remove_38 : decode cX3_remove 38 = .ok (.aload_n 0, 1) := by decide +kernel
theorem dX3_remove_39 : decode cX3_remove 39 = .ok (.getfield 22, 3) := by decide +kernel
theorem dX3_remove_42 : decode cX3_remove 42 = .ok (.iload_n 1, 1) := by decide +kernel
theorem dX3_remove_43 : decode cX3_remove 43 = .ok (.aload_n 0, 1) := by decide +kernel
theorem dX3_remove_44 : decode cX3_remove 44 = .ok (.getfield 28, 3) := by decide +kernel
theorem dX3_remove_47 : decode cX3_remove 47 = .ok (.iload_n 1, 1) := by decide +kernel
theorem dX3_remove_48 : decode cX3_remove 48 = .ok (.iaload, 1) := by decide +kernel
theorem dX3_remove_49 : decode cX3_remove 49 = .ok (.iastore, 1) := by decide +kernel
theorem dX3_remove_50 : decode cX3_remove 50 = .ok (.aload_n 0, 1) := by decide +kernel
theorem dX3_remove_51 : decode cX3_remove 51 = .ok (.getfield 25, 3) := by decide +kernel
theorem dX3_remove_54 : decode cX3_remove 54 = .ok (.iload_n 1, 1) := by decide +kernel
theorem dX3_remove_55 : decode cX3_remove 55 = .ok (.iconst (-1), 1) := by decide +kernel
theorem dX3_remove_56 : decode cX3_remove 56 = .ok (.iastore, 1) := by decide +kernel
theorem dX3_remove_57 : decode cX3_remove 57 = .ok (.aload_n 0, 1) := by decide +kernel
theorem dX3_remove_58 : decode cX3_remove 58 = .ok (.aload_n 0, 1) := by decide +kernel
theorem dX3_remove_59 : decode cX3_remove 59 = .ok (.getfield 19, 3) := by decide +kernel
theorem dX3_remove_62 : decode cX3_remove 62 = .ok (.iload_n 1, 1) := by decide +kernel
theorem dX3_remove_63 : decode cX3_remove 63 = .ok (.iaload, 1) := by decide +kernel
theorem dX3_remove_64 : decode cX3_remove 64 = .ok (.iload_n 1, 1) := by decide +kernel
theorem dX3_remove_65 : decode cX3_remove 65 = .ok (.invokevirtual 67, 3) := by decide +kernel
theorem dX3_remove_68 : decode cX3_remove 68 = .ok (.iload_n 3, 1) := by decide +kernel
theorem dX3_remove_69 : decode cX3_remove 69 = .ok (.ireturn, 1) := by decide +kernel
set_option maxRecDepth 20000 in
theorem ggX3_old_X3_isPeg : GoodIn wsX3_old wsX3_isPeg := goodIn_r _ [6, 7, 8, 5, 9] (by decide +kernel) (by decide +kernel)
set_option maxRecDepth 20000 in
theorem gX3_old_X3_isPeg : GoodIn wsX3_old (va_wsS RX3 90 yX3_isPeg wsX3_isPeg) := goodIn_app (goodIn_of _ (by decide +kernel)) ggX3_old_X3_isPeg
theorem dX3_old_0 : decode cX3_old 0 = .ok (.iload_n 1, 1) := by decide +kernel
theorem dX3_old_1 : decode cX3_old 1 = .ok (.invokestatic 90, 3) := by decide +kernel
theorem dX3_old_4 : decode cX3_old 4 = .ok (.ifCond .ne 5, 3) := by decide +kernel
theorem dX3_old_7 : decode cX3_old 7 = .ok (.iconst (-1), 1) := by decide +kernel
theorem dX3_old_8 : decode cX3_old 8 = .ok (.ireturn, 1) := by decide +kernel
theorem dX3_old_9 : decode cX3_old 9 = .ok (.aload_n 0, 1) := by decide +kernel
theorem dX3_old_10 : decode cX3_old 10 = .ok (.getfield 19, 3) := by decide +kernel
theorem dX3_old_13 : decode cX3_old 13 = .ok (.iload_n 1, 1) := by decide +kernel
theorem dX3_old_14 : decode cX3_old 14 = .ok (.iaload, 1) := by decide +kernel
theorem dX3_old_15 : decode cX3_old 15 = .ok (.iconst (-1), 1) := by decide +kernel
theorem dX3_old_16 : decode cX3_old 16 = .ok (.if_icmp .ne 8, 3) := by decide +kernel
theorem dX3_old_19 : decode cX3_old 19 = .ok (.bipush (-2), 2) := by decide +kernel
theorem dX3_old_21 : decode cX3_old 21 = .ok (.goto 9, 3) := by decide +kernel
theorem dX3_old_24 : decode cX3_old 24 = .ok (.aload_n 0, 1) := by decide +kernel
theorem dX3_old_25 : decode cX3_old 25 = .ok (.getfield 34, 3) := by decide +kernel
theorem dX3_old_28 : decode cX3_old 28 = .ok (.iload_n 1, 1) := by decide +kernel
theorem dX3_old_29 : decode cX3_old 29 = .ok (.iaload, 1) := by decide +kernel
theorem dX3_old_30 : decode cX3_old 30 = .ok (.ireturn, 1) := by decide +kernel
theorem dX3_standing_0 : decode cX3_standing 0 = .ok (.iconst 0, 1) := by decide +kernel
theorem dX3_standing_1 : decode cX3_standing 1 = .ok (.istore_n 1, 1) := by decide +kernel
theorem dX3_standing_2 : decode cX3_standing 2 = .ok (.iconst 0, 1) := by decide +kernel
theorem dX3_standing_3 : decode cX3_standing 3 = .ok (.istore_n 2, 1) := by decide +kernel
theorem dX3_standing_4 : decode cX3_standing 4 = .ok (.iload_n 2, 1) := by decide +kernel
theorem dX3_standing_5 : decode cX3_standing 5 = .ok (.iconst 4, 1) := by decide +kernel
theorem dX3_standing_6 : decode cX3_standing 6 = .ok (.if_icmp .ge 27, 3) := by decide +kernel
theorem dX3_standing_9 : decode cX3_standing 9 = .ok (.iload_n 1, 1) := by decide +kernel
theorem dX3_standing_10 : decode cX3_standing 10 = .ok (.aload_n 0, 1) := by decide +kernel
theorem dX3_standing_11 : decode cX3_standing 11 = .ok (.getfield 19, 3) := by decide +kernel
theorem dX3_standing_14 : decode cX3_standing 14 = .ok (.iload_n 2, 1) := by decide +kernel
theorem dX3_standing_15 : decode cX3_standing 15 = .ok (.iaload, 1) := by decide +kernel
theorem dX3_standing_16 : decode cX3_standing 16 = .ok (.iconst (-1), 1) := by decide +kernel
theorem dX3_standing_17 : decode cX3_standing 17 = .ok (.if_icmp .ne 7, 3) := by decide +kernel
theorem dX3_standing_20 : decode cX3_standing 20 = .ok (.iconst 0, 1) := by decide +kernel
theorem dX3_standing_21 : decode cX3_standing 21 = .ok (.goto 4, 3) := by decide +kernel
theorem dX3_standing_24 : decode cX3_standing 24 = .ok (.iconst 1, 1) := by decide +kernel
theorem dX3_standing_25 : decode cX3_standing 25 = .ok (.iadd, 1) := by decide +kernel
theorem dX3_standing_26 : decode cX3_standing 26 = .ok (.istore_n 1, 1) := by decide +kernel
theorem dX3_standing_27 : decode cX3_standing 27 = .ok (.iinc 2 1, 3) := by decide +kernel
theorem dX3_standing_30 : decode cX3_standing 30 = .ok (.goto (-26), 3) := by decide +kernel
theorem dX3_standing_33 : decode cX3_standing 33 = .ok (.iload_n 1, 1) := by decide +kernel
theorem dX3_standing_34 : decode cX3_standing 34 = .ok (.ireturn, 1) := by decide +kernel
set_option maxRecDepth 20000 in
theorem ggX3_count_X3_in : GoodIn wsX3_count wsX3_in := goodIn_r _ [7] (by decide +kernel) (by decide +kernel)
set_option maxRecDepth 20000 in
theorem gX3_count_X3_in : GoodIn wsX3_count (va_wsS RX3 40 yX3_in wsX3_in) := goodIn_app (goodIn_of _ (by decide +kernel)) ggX3_count_X3_in
set_option maxRecDepth 20000 in
theorem ggX3_count_X3_standing : GoodIn wsX3_count wsX3_standing := goodIn_r _ [11, 12, 13, 14, 15, 16, 17, 18, 19, 20, 21, 22, 23] (by decide +kernel) (by decide +kernel)
set_option maxRecDepth 20000 in
theorem gX3_count_X3_standing : GoodIn wsX3_count (wsV RX3 103 RX3 yX3_standing wsX3_standing) := goodIn_app (goodIn_of _ (by decide +kernel)) ggX3_count_X3_standing
theorem dX3_count_0 : decode cX3_count 0 = .ok (.iload_n 1, 1) := by decide +kernel
theorem dX3_count_1 : decode cX3_count 1 = .ok (.iconst 0, 1) := by decide +kernel
theorem dX3_count_2 : decode cX3_count 2 = .ok (.bipush 6, 2) := by decide +kernel
theorem dX3_count_4 : decode cX3_count 4 = .ok (.invokestatic 40, 3) := by decide +kernel
theorem dX3_count_7 : decode cX3_count 7 = .ok (.ifCond .ne 5, 3) := by decide +kernel
theorem dX3_count_10 : decode cX3_count 10 = .ok (.iconst (-1), 1) := by decide +kernel
theorem dX3_count_11 : decode cX3_count 11 = .ok (.ireturn, 1) := by decide +kernel
theorem dX3_count_12 : decode cX3_count 12 = .ok (.iload_n 1, 1) := by decide +kernel
theorem dX3_count_13 : decode cX3_count 13 = .ok (.ifCond .ne 8, 3) := by decide +kernel
theorem dX3_count_16 : decode cX3_count 16 = .ok (.aload_n 0, 1) := by decide +kernel
theorem dX3_count_17 : decode cX3_count 17 = .ok (.getfield 44, 3) := by decide +kernel
theorem dX3_count_20 : decode cX3_count 20 = .ok (.ireturn, 1) := by decide +kernel
theorem dX3_count_21 : decode cX3_count 21 = .ok (.iload_n 1, 1) := by decide +kernel
theorem dX3_count_22 : decode cX3_count 22 = .ok (.iconst 5, 1) := by decide +kernel
theorem dX3_count_23 : decode cX3_count 23 = .ok (.if_icmp .ge 12, 3) := by decide +kernel
theorem dX3_count_26 : decode cX3_count 26 = .ok (.aload_n 0, 1) := by decide +kernel
theorem dX3_count_27 : decode cX3_count 27 = .ok (.getfield 16, 3) := by decide +kernel
theorem dX3_count_30 : decode cX3_count 30 = .ok (.iload_n 1, 1) := by decide +kernel
theorem dX3_count_31 : decode cX3_count 31 = .ok (.iconst 1, 1) := by decide +kernel
theorem dX3_count_32 : decode cX3_count 32 = .ok (.isub, 1) := by decide +kernel
theorem dX3_count_33 : decode cX3_count 33 = .ok (.iaload, 1) := by decide +kernel
theorem dX3_count_34 : decode cX3_count 34 = .ok (.ireturn, 1) := by decide +kernel
theorem dX3_count_35 : decode cX3_count 35 = .ok (.iload_n 1, 1) := by decide +kernel
theorem dX3_count_36 : decode cX3_count 36 = .ok (.iconst 5, 1) := by decide +kernel
theorem dX3_count_37 : decode cX3_count 37 = .ok (.if_icmp .ne 10, 3) := by decide +kernel
theorem dX3_count_40 : decode cX3_count 40 = .ok (.aload_n 0, 1) := by decide +kernel
theorem dX3_count_41 : decode cX3_count 41 = .ok (.invokevirtual 103, 3) := by decide +kernel
theorem dX3_count_44 : decode cX3_count 44 = .ok (.goto 30, 3) := by decide +kernel
theorem dX3_count_47 : decode cX3_count 47 = .ok (.aload_n 0, 1) := by decide +kernel
theorem dX3_count_48 : decode cX3_count 48 = .ok (.getfield 34, 3) := by decide +kernel
theorem dX3_count_51 : decode cX3_count 51 = .ok (.iconst 0, 1) := by decide +kernel
theorem dX3_count_52 : decode cX3_count 52 = .ok (.iaload, 1) := by decide +kernel
theorem dX3_count_53 : decode cX3_count 53 = .ok (.aload_n 0, 1) := by decide +kernel
theorem dX3_count_54 : decode cX3_count 54 = .ok (.getfield 34, 3) := by decide +kernel
theorem dX3_count_57 : decode cX3_count 57 = .ok (.iconst 1, 1) := by decide +kernel
theorem dX3_count_58 : decode cX3_count 58 = .ok (.iaload, 1) := by decide +kernel
theorem dX3_count_59 : decode cX3_count 59 = .ok (.iadd, 1) := by decide +kernel
theorem dX3_count_60 : decode cX3_count 60 = .ok (.aload_n 0, 1) := by decide +kernel
theorem dX3_count_61 : decode cX3_count 61 = .ok (.getfield 34, 3) := by decide +kernel
theorem dX3_count_64 : decode cX3_count 64 = .ok (.iconst 2, 1) := by decide +kernel
theorem dX3_count_65 : decode cX3_count 65 = .ok (.iaload, 1) := by decide +kernel
theorem dX3_count_66 : decode cX3_count 66 = .ok (.iadd, 1) := by decide +kernel
theorem dX3_count_67 : decode cX3_count 67 = .ok (.aload_n 0, 1) := by decide +kernel
theorem dX3_count_68 : decode cX3_count 68 = .ok (.getfield 34, 3) := by decide +kernel
theorem dX3_count_71 : decode cX3_count 71 = .ok (.iconst 3, 1) := by decide +kernel
theorem dX3_count_72 : decode cX3_count 72 = .ok (.iaload, 1) := by decide +kernel
theorem dX3_count_73 : decode cX3_count 73 = .ok (.iadd, 1) := by decide +kernel
theorem dX3_count_74 : decode cX3_count 74 = .ok (.ireturn, 1) := by decide +kernel
