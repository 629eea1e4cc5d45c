theorem dX6_init_0 : decode cX6_init 0 = .ok (.aload_n 0, 1) := by decide +kernel
theorem dX6_init_1 : decode cX6_init 1 = .ok (.invokespecial 3, 3) := by decide +kernel
theorem dX6_init_4 : decode cX6_init 4 = .ok (.aload_n 0, 1) := by decide +kernel
theorem dX6_init_5 : decode cX6_init 5 = .ok (.new 9, 3) := by decide +kernel
theorem dX6_init_8 : decode cX6_init 8 = .ok (.dup, 1) := by decide +kernel
theorem dX6_init_9 : decode cX6_init 9 = .ok (.invokespecial 11, 3) := by decide +kernel
theorem dX6_init_12 : decode cX6_init 12 = .ok (.putfield 12, 3) := by decide +kernel
theorem dX6_init_15 : decode cX6_init 15 = .ok (.aload_n 0, 1) := by decide +kernel
theorem dX6_init_16 : decode cX6_init 16 = .ok (.new 16, 3) := by decide +kernel
theorem dX6_init_19 : decode cX6_init 19 = .ok (.dup, 1) := by decide +kernel
theorem dX6_init_20 : decode cX6_init 20 = .ok (.invokespecial 18, 3) := by decide +kernel
theorem dX6_init_23 : decode cX6_init 23 = .ok (.putfield 19, 3) := by decide +kernel
theorem dX6_init_26 : decode cX6_init 26 = .ok (.aload_n 0, 1) := by decide +kernel
theorem dX6_init_27 : decode cX6_init 27 = .ok (.new 23, 3) := by decide +kernel
theorem dX6_init_30 : decode cX6_init 30 = .ok (.dup, 1) := by decide +kernel
theorem dX6_init_31 : decode cX6_init 31 = .ok (.invokespecial 25, 3) := by decide +kernel
theorem dX6_init_34 : decode cX6_init 34 = .ok (.putfield 26, 3) := by decide +kernel
theorem dX6_init_37 : decode cX6_init 37 = .ok (.aload_n 0, 1) := by decide +kernel
theorem dX6_init_38 : decode cX6_init 38 = .ok (.new 30, 3) := by decide +kernel
theorem dX6_init_41 : decode cX6_init 41 = .ok (.dup, 1) := by decide +kernel
theorem dX6_init_42 : decode cX6_init 42 = .ok (.invokespecial 32, 3) := by decide +kernel
theorem dX6_init_45 : decode cX6_init 45 = .ok (.putfield 33, 3) := by decide +kernel
theorem dX6_init_48 : decode cX6_init 48 = .ok (.aload_n 0, 1) := by decide +kernel
theorem dX6_init_49 : decode cX6_init 49 = .ok (.new 37, 3) := by decide +kernel
theorem dX6_init_52 : decode cX6_init 52 = .ok (.dup, 1) := by decide +kernel
theorem dX6_init_53 : decode cX6_init 53 = .ok (.invokespecial 39, 3) := by decide +kernel
theorem dX6_init_56 : decode cX6_init 56 = .ok (.putfield 40, 3) := by decide +kernel
theorem dX6_init_59 : decode cX6_init 59 = .ok (.aload_n 0, 1) := by decide +kernel
theorem dX6_init_60 : decode cX6_init 60 = .ok (.lconst 0, 1) := by decide +kernel
theorem dX6_init_61 : decode cX6_init 61 = .ok (.putfield 44, 3) := by decide +kernel
theorem dX6_init_64 : decode cX6_init 64 = .ok (.aload_n 0, 1) := by decide +kernel
theorem dX6_init_65 : decode cX6_init 65 = .ok (.iconst 0, 1) := by decide +kernel
theorem dX6_init_66 : decode cX6_init 66 = .ok (.putfield 48, 3) := by decide +kernel
theorem dX6_init_69 : decode cX6_init 69 = .ok (.aload_n 0, 1) := by decide +kernel
theorem dX6_init_70 : decode cX6_init 70 = .ok (.iconst 0, 1) := by decide +kernel
theorem dX6_init_71 : decode cX6_init 71 = .ok (.putfield 52, 3) := by decide +kernel
theorem dX6_init_74 : decode cX6_init 74 = .ok (.aload_n 0, 1) := by decide +kernel
theorem dX6_init_75 : decode cX6_init 75 = .ok (.iconst 0, 1) := by decide +kernel
theorem dX6_init_76 : decode cX6_init 76 = .ok (.putfield 55, 3) := by decide +kernel
theorem dX6_init_79 : decode cX6_init 79 = .ok (.aload_n 0, 1) := by decide +kernel
theorem dX6_init_80 : decode cX6_init 80 = .ok (.iconst 0, 1) := by decide +kernel
theorem dX6_init_81 : decode cX6_init 81 = .ok (.putfield 58, 3) := by decide +kernel
theorem dX6_init_84 : decode cX6_init 84 = .ok (.aload_n 0, 1) := by decide +kernel
theorem dX6_init_85 : decode cX6_init 85 = .ok (.iconst 0, 1) := by decide +kernel
theorem dX6_init_86 : decode cX6_init 86 = .ok (.putfield 61, 3) := by decide +kernel
theorem dX6_init_89 : decode cX6_init 89 = .ok (.aload_n 0, 1) := by decide +kernel
theorem dX6_init_90 : decode cX6_init 90 = .ok (.iconst 1, 1) := by decide +kernel
theorem dX6_init_91 : decode cX6_init 91 = .ok (.putfield 65, 3) := by decide +kernel
theorem dX6_init_94 : decode cX6_init 94 = .ok (.return_, 1) := by decide +kernel
set_option maxRecDepth 20000 in
theorem ggX6_type_X5_put : GoodIn wsX6_type wsX5_put := goodIn_r _ [6, 7, 8, 9, 5, 10, 11, 12, 13, 14, 15, 37, 38] (by decide +kernel) (by decide +kernel)
set_option maxRecDepth 20000 in
theorem gX6_type_X5_put : GoodIn wsX6_type (wsV RX6 72 RX5 yX5_put wsX5_put) := goodIn_app (goodIn_of _ (by decide +kernel)) ggX6_type_X5_put
theorem dX6_type_0 : decode cX6_type 0 = .ok (.aload_n 0, 1) := by decide +kernel
theorem dX6_type_1 : decode cX6_type 1 = .ok (.getfield 12, 3) := by decide +kernel
theorem dX6_type_4 : decode cX6_type 4 = .ok (.getfield 68, 3) := by decide +kernel
theorem dX6_type_7 : decode cX6_type 7 = .ok (.lload_n 1, 1) := by decide +kernel
theorem dX6_type_8 : decode cX6_type 8 = .ok (.iload_n 3, 1) := by decide +kernel
theorem dX6_type_9 : decode cX6_type 9 = .ok (.invokevirtual 72, 3) := by decide +kernel
theorem dX6_type_12 : decode cX6_type 12 = .ok (.ireturn, 1) := by decide +kernel
set_option maxRecDepth 20000 in
theorem ggX6_compile_X4_stands : GoodIn wsX6_compile wsX4_stands := goodIn_r _ [11, 12, 147, 148, 149, 150, 151, 152] (by decide +kernel) (by decide +kernel)
set_option maxRecDepth 20000 in
theorem gX6_compile_X4_stands : GoodIn wsX6_compile (wsV RX6 78 RX4 yX4_stands wsX4_stands) := goodIn_app (goodIn_of _ (by decide +kernel)) ggX6_compile_X4_stands
set_option maxRecDepth 20000 in
theorem ggX6_compile_X2_read : GoodIn wsX6_compile wsX2_read := goodIn_r _ [17, 18, 19, 20, 21, 22, 23, 24, 25, 26, 27, 28, 29, 30, 31, 32, 33, 34, 35, 36, 37, 38, 39, 40, 41, 42, 43, 44, 45, 16, 46, 47, 48, 49, 50, 51, 52, 53, 54, 55, 56, 57, 58, 59, 60, 61, 62, 63, 64, 65, 66, 67, 68, 69, 70, 71, 72, 73, 74, 75, 76, 77, 78, 79, 80, 81, 82, 83, 84, 85, 86, 87, 88, 89, 90, 91, 92, 93, 94, 95, 96, 97, 98, 99, 100, 101, 102, 103, 104, 105, 106, 107, 108, 109, 110, 111, 112, 113, 114, 115, 116, 117, 118, 119, 120, 121, 122, 123, 124, 153, 154, 155, 156, 157, 158, 159, 160, 161, 162, 163, 164, 165, 166, 167, 168, 169, 170, 171, 172, 173, 174] (by decide +kernel) (by decide +kernel)
set_option maxRecDepth 20000 in
theorem gX6_compile_X2_read : GoodIn wsX6_compile (wsV RX6 82 RX2 yX2_read wsX2_read) := goodIn_app (goodIn_of _ (by decide +kernel)) ggX6_compile_X2_read
set_option maxRecDepth 20000 in
theorem ggX6_compile_X2_exchange : GoodIn wsX6_compile wsX2_exchange := goodIn_r _ [128, 18, 153, 154, 155, 156, 157, 158, 159, 160, 161] (by decide +kernel) (by decide +kernel)
set_option maxRecDepth 20000 in
theorem gX6_compile_X2_exchange : GoodIn wsX6_compile (wsV RX6 86 RX2 yX2_exchange wsX2_exchange) := goodIn_app (goodIn_of _ (by decide +kernel)) ggX6_compile_X2_exchange
set_option maxRecDepth 20000 in
theorem ggX6_compile_X3_clear : GoodIn wsX6_compile wsX3_clear := goodIn_r _ [133, 134, 175, 176, 177] (by decide +kernel) (by decide +kernel)
set_option maxRecDepth 20000 in
theorem gX6_compile_X3_clear : GoodIn wsX6_compile (wsV RX6 90 RX3 yX3_clear wsX3_clear) := goodIn_app (goodIn_of _ (by decide +kernel)) ggX6_compile_X3_clear
theorem dX6_compile_0 : decode cX6_compile 0 = .ok (.aload_n 0, 1) := by decide +kernel
theorem dX6_compile_1 : decode cX6_compile 1 = .ok (.getfield 65, 3) := by decide +kernel
theorem dX6_compile_4 : decode cX6_compile 4 = .ok (.ifCond .eq 13, 3) := by decide +kernel
theorem dX6_compile_7 : decode cX6_compile 7 = .ok (.aload_n 0, 1) := by decide +kernel
theorem dX6_compile_8 : decode cX6_compile 8 = .ok (.getfield 19, 3) := by decide +kernel
theorem dX6_compile_11 : decode cX6_compile 11 = .ok (.invokevirtual 78, 3) := by decide +kernel
theorem dX6_compile_14 : decode cX6_compile 14 = .ok (.ifCond .ne 5, 3) := by decide +kernel
theorem dX6_compile_17 : decode cX6_compile 17 = .ok (.iconst (-1), 1) := by decide +kernel
theorem dX6_compile_18 : decode cX6_compile 18 = .ok (.ireturn, 1) := by decide +kernel
theorem dX6_compile_19 : decode cX6_compile 19 = .ok (.aload_n 0, 1) := by decide +kernel
theorem dX6_compile_20 : decode cX6_compile 20 = .ok (.getfield 12, 3) := by decide +kernel
theorem dX6_compile_23 : decode cX6_compile 23 = .ok (.invokevirtual 82, 3) := by decide +kernel
theorem dX6_compile_26 : decode cX6_compile 26 = .ok (.istore_n 1, 1) := by decide +kernel
theorem dX6_compile_27 : decode cX6_compile 27 = .ok (.iload_n 1, 1) := by decide +kernel
theorem dX6_compile_28 : decode cX6_compile 28 = .ok (.iconst (-1), 1) := by decide +kernel
theorem dX6_compile_29 : decode cX6_compile 29 = .ok (.if_icmp .eq 7, 3) := by decide +kernel
theorem dX6_compile_32 : decode cX6_compile 32 = .ok (.iload_n 1, 1) := by decide +kernel
theorem dX6_compile_33 : decode cX6_compile 33 = .ok (.iconst 1, 1) := by decide +kernel
theorem dX6_compile_34 : decode cX6_compile 34 = .ok (.iadd, 1) := by decide +kernel
theorem dX6_compile_35 : decode cX6_compile 35 = .ok (.ireturn, 1) := by decide +kernel
theorem dX6_compile_36 : decode cX6_compile 36 = .ok (.aload_n 0, 1) := by decide +kernel
theorem dX6_compile_37 : decode cX6_compile 37 = .ok (.aload_n 0, 1) := by decide +kernel
theorem dX6_compile_38 : decode cX6_compile 38 = .ok (.getfield 12, 3) := by decide +kernel
theorem dX6_compile_41 : decode cX6_compile 41 = .ok (.aload_n 0, 1) := by decide +kernel
theorem dX6_compile_42 : decode cX6_compile 42 = .ok (.getfield 40, 3) := by decide +kernel
theorem dX6_compile_45 : decode cX6_compile 45 = .ok (.invokevirtual 86, 3) := by decide +kernel
theorem dX6_compile_48 : decode cX6_compile 48 = .ok (.putfield 40, 3) := by decide +kernel
theorem dX6_compile_51 : decode cX6_compile 51 = .ok (.aload_n 0, 1) := by decide +kernel
theorem dX6_compile_52 : decode cX6_compile 52 = .ok (.lconst 0, 1) := by decide +kernel
theorem dX6_compile_53 : decode cX6_compile 53 = .ok (.putfield 44, 3) := by decide +kernel
theorem dX6_compile_56 : decode cX6_compile 56 = .ok (.aload_n 0, 1) := by decide +kernel
theorem dX6_compile_57 : decode cX6_compile 57 = .ok (.getfield 33, 3) := by decide +kernel
theorem dX6_compile_60 : decode cX6_compile 60 = .ok (.invokevirtual 90, 3) := by decide +kernel
theorem dX6_compile_63 : decode cX6_compile 63 = .ok (.iconst 0, 1) := by decide +kernel
theorem dX6_compile_64 : decode cX6_compile 64 = .ok (.ireturn, 1) := by decide +kernel
theorem dX6_length_0 : decode cX6_length 0 = .ok (.aload_n 0, 1) := by decide +kernel
theorem dX6_length_1 : decode cX6_length 1 = .ok (.getfield 40, 3) := by decide +kernel
theorem dX6_length_4 : decode cX6_length 4 = .ok (.getfield 93, 3) := by decide +kernel
theorem dX6_length_7 : decode cX6_length 7 = .ok (.lreturn, 1) := by decide +kernel
set_option maxRecDepth 20000 in
theorem ggX6_design_X1_tell : GoodIn wsX6_design wsX1_tell := goodIn_r _ [6, 7, 8, 9, 10, 11, 12, 13, 14, 15, 5, 16, 17, 18, 19, 20, 21, 22, 23, 24, 25, 26, 27, 28, 29, 30, 31, 32, 33, 46, 47, 48, 49, 50, 51, 52, 53, 54, 55, 56] (by decide +kernel) (by decide +kernel)
set_option maxRecDepth 20000 in
theorem gX6_design_X1_tell : GoodIn wsX6_design (wsV RX6 96 RX1 yX1_tell wsX1_tell) := goodIn_app (goodIn_of _ (by decide +kernel)) ggX6_design_X1_tell
theorem dX6_design_0 : decode cX6_design 0 = .ok (.aload_n 0, 1) := by decide +kernel
theorem dX6_design_1 : decode cX6_design 1 = .ok (.getfield 40, 3) := by decide +kernel
theorem dX6_design_4 : decode cX6_design 4 = .ok (.lload_n 1, 1) := by decide +kernel
theorem dX6_design_5 : decode cX6_design 5 = .ok (.iload_n 3, 1) := by decide +kernel
theorem dX6_design_6 : decode cX6_design 6 = .ok (.invokevirtual 96, 3) := by decide +kernel
theorem dX6_design_9 : decode cX6_design 9 = .ok (.ireturn, 1) := by decide +kernel
set_option maxRecDepth 20000 in
theorem ggX6_start_X4_stands : GoodIn wsX6_start wsX4_stands := goodIn_r _ [8, 9, 33, 34, 35, 36, 37, 38] (by decide +kernel) (by decide +kernel)
set_option maxRecDepth 20000 in
theorem gX6_start_X4_stands : GoodIn wsX6_start (wsV RX6 78 RX4 yX4_stands wsX4_stands) := goodIn_app (goodIn_of _ (by decide +kernel)) ggX6_start_X4_stands
theorem dX6_start_0 : decode cX6_start 0 = .ok (.aload_n 0, 1) := by decide +kernel
theorem dX6_start_1 : decode cX6_start 1 = .ok (.getfield 65, 3) := by decide +kernel
theorem dX6_start_4 : decode cX6_start 4 = .ok (.ifCond .eq 25, 3) := by decide +kernel
theorem dX6_start_7 : decode cX6_start 7 = .ok (.aload_n 0, 1) := by decide +kernel
theorem dX6_start_8 : decode cX6_start 8 = .ok (.getfield 19, 3) := by decide +kernel
theorem dX6_start_11 : decode cX6_start 11 = .ok (.invokevirtual 78, 3) := by decide +kernel
theorem dX6_start_14 : decode cX6_start 14 = .ok (.ifCond .eq 15, 3) := by decide +kernel
theorem dX6_start_17 : decode cX6_start 17 = .ok (.aload_n 0, 1) := by decide +kernel
theorem dX6_start_18 : decode cX6_start 18 = .ok (.getfield 40, 3) := by decide +kernel
theorem dX6_start_21 : decode cX6_start 21 = .ok (.getfield 93, 3) := by decide +kernel
theorem dX6_start_24 : decode cX6_start 24 = .ok (.lconst 0, 1) := by decide +kernel
theorem dX6_start_25 : decode cX6_start 25 = .ok (.lcmp, 1) := by decide +kernel
theorem dX6_start_26 : decode cX6_start 26 = .ok (.ifCond .ne 5, 3) := by decide +kernel
theorem dX6_start_29 : decode cX6_start 29 = .ok (.iconst 0, 1) := by decide +kernel
theorem dX6_start_30 : decode cX6_start 30 = .ok (.ireturn, 1) := by decide +kernel
theorem dX6_start_31 : decode cX6_start 31 = .ok (.aload_n 0, 1) := by decide +kernel
theorem dX6_start_32 : decode cX6_start 32 = .ok (.getfield 19, 3) := by decide +kernel
theorem dX6_start_35 : decode cX6_start 35 = .ok (.iconst 1, 1) := by decide +kernel
theorem dX6_start_36 : decode cX6_start 36 = .ok (.putfield 100, 3) := by decide +kernel
theorem dX6_start_39 : decode cX6_start 39 = .ok (.iconst 1, 1) := by decide +kernel
theorem dX6_start_40 : decode cX6_start 40 = .ok (.ireturn, 1) := by decide +kernel
set_option maxRecDepth 20000 in
theorem ggX6_stop_X4_orderBrake : GoodIn wsX6_stop wsX4_orderBrake := goodIn_r _ [6, 7, 8, 9, 10, 23, 24, 25, 26, 27, 28] (by decide +kernel) (by decide +kernel)
set_option maxRecDepth 20000 in
theorem gX6_stop_X4_orderBrake : GoodIn wsX6_stop (wsV RX6 103 RX4 yX4_orderBrake wsX4_orderBrake) := goodIn_app (goodIn_of _ (by decide +kernel)) ggX6_stop_X4_orderBrake
theorem dX6_stop_0 : decode cX6_stop 0 = .ok (.aload_n 0, 1) := by decide +kernel
theorem dX6_stop_1 : decode cX6_stop 1 = .ok (.getfield 19, 3) := by decide +kernel
theorem dX6_stop_4 : decode cX6_stop 4 = .ok (.invokevirtual 103, 3) := by decide +kernel
theorem dX6_stop_7 : decode cX6_stop 7 = .ok (.ireturn, 1) := by decide +kernel
set_option maxRecDepth 20000 in
theorem ggX6_turn_X4_stands : GoodIn wsX6_turn wsX4_stands := goodIn_r _ [12, 13, 156, 157, 158, 159, 160, 161] (by decide +kernel) (by decide +kernel)
set_option maxRecDepth 20000 in
theorem gX6_turn_X4_stands : GoodIn wsX6_turn (wsV RX6 78 RX4 yX4_stands wsX4_stands) := goodIn_app (goodIn_of _ (by decide +kernel)) ggX6_turn_X4_stands
set_option maxRecDepth 20000 in
theorem ggX6_turn_X6_sixteenths : GoodIn wsX6_turn wsX6_sixteenths := goodIn_r _ [17, 18] (by decide +kernel) (by decide +kernel)
set_option maxRecDepth 20000 in
theorem gX6_turn_X6_sixteenths : GoodIn wsX6_turn (va_wsS RX6 120 yX6_sixteenths wsX6_sixteenths) := goodIn_app (goodIn_of _ (by decide +kernel)) ggX6_turn_X6_sixteenths
set_option maxRecDepth 20000 in
theorem ggX6_turn_X6_goForwards : GoodIn wsX6_turn wsX6_goForwards := goodIn_r _ [22, 6, 8, 9, 10, 11, 12, 13, 23, 24, 25, 26, 27, 28, 29, 30, 31, 32, 33, 34, 35, 36, 37, 38, 39, 16, 40, 41, 42, 43, 44, 45, 46, 47, 48, 49, 50, 51, 52, 53, 54, 55, 56, 57, 58, 59, 60, 61, 62, 63, 64, 65, 66, 67, 68, 69, 70, 71, 72, 73, 74, 75, 76, 77, 78, 79, 80, 81, 82, 83, 84, 85, 86, 87, 88, 89, 90, 91, 92, 93, 94, 95, 96, 97, 98, 99, 100, 101, 102, 103, 104, 105, 106, 107, 108, 109, 110, 111, 112, 113, 114, 115, 116, 117, 118, 119, 120, 121, 122, 123, 124, 125, 126, 127, 128, 129, 130, 131, 132, 133, 134, 135, 136, 137, 138, 139, 144, 145, 146, 147, 148, 149, 150, 151, 152, 153, 154, 155, 156, 157, 158, 159, 160, 161, 162, 163, 164, 165, 166, 167, 168, 169, 170, 171, 172, 173, 174, 175, 176, 177, 178, 179, 180, 181, 182] (by decide +kernel) (by decide +kernel)
set_option maxRecDepth 20000 in
theorem gX6_turn_X6_goForwards : GoodIn wsX6_turn (wsV RX6 124 RX6 yX6_goForwards wsX6_goForwards) := goodIn_app (goodIn_of _ (by decide +kernel)) ggX6_turn_X6_goForwards
set_option maxRecDepth 20000 in
theorem ggX6_turn_X6_degrees : GoodIn wsX6_turn wsX6_degrees := goodIn_r _ [142, 143] (by decide +kernel) (by decide +kernel)
set_option maxRecDepth 20000 in
theorem gX6_turn_X6_degrees : GoodIn wsX6_turn (va_wsS RX6 128 yX6_degrees wsX6_degrees) := goodIn_app (goodIn_of _ (by decide +kernel)) ggX6_turn_X6_degrees
theorem dX6_turn_0 : decode cX6_turn 0 = .ok (.aload_n 0, 1) := by decide +kernel
theorem dX6_turn_1 : decode cX6_turn 1 = .ok (.getfield 65, 3) := by decide +kernel
theorem dX6_turn_4 : decode cX6_turn 4 = .ok (.ifCond .eq 13, 3) := by decide +kernel
theorem dX6_turn_7 : decode cX6_turn 7 = .ok (.aload_n 0, 1) := by decide +kernel
theorem dX6_turn_8 : decode cX6_turn 8 = .ok (.getfield 19, 3) := by decide +kernel
theorem dX6_turn_11 : decode cX6_turn 11 = .ok (.invokevirtual 78, 3) := by decide +kernel
theorem dX6_turn_14 : decode cX6_turn 14 = .ok (.ifCond .eq 13, 3) := by decide +kernel
theorem dX6_turn_17 : decode cX6_turn 17 = .ok (.new 106, 3) := by decide +kernel
theorem dX6_turn_20 : decode cX6_turn 20 = .ok (.dup, 1) := by decide +kernel
theorem dX6_turn_21 : decode cX6_turn 21 = .ok (.ldc 108, 2) := by decide +kernel
theorem dX6_turn_23 : decode cX6_turn 23 = .ok (.invokespecial 110, 3) := by decide +kernel
theorem dX6_turn_26 : decode cX6_turn 26 = .ok (.athrow, 1) := by decide +kernel
theorem dX6_turn_27 : decode cX6_turn 27 = .ok (.dload_n 1, 1) := by decide +kernel
theorem dX6_turn_28 : decode cX6_turn 28 = .ok (.dconst 0, 1) := by decide +kernel
theorem dX6_turn_29 : decode cX6_turn 29 = .ok (.dcmp .l, 1) := by decide +kernel
theorem dX6_turn_30 : decode cX6_turn 30 = .ok (.ifCond .lt 11, 3) := by decide +kernel
theorem dX6_turn_33 : decode cX6_turn 33 = .ok (.dload_n 1, 1) := by decide +kernel
theorem dX6_turn_34 : decode cX6_turn 34 = .ok (.ldc2_w 113, 3) := by decide +kernel
theorem dX6_turn_37 : decode cX6_turn 37 = .ok (.dcmp .g, 1) := by decide +kernel
theorem dX6_turn_38 : decode cX6_turn 38 = .ok (.ifCond .le 13, 3) := by decide +kernel
theorem dX6_turn_41 : decode cX6_turn 41 = .ok (.new 115, 3) := by decide +kernel
theorem dX6_turn_44 : decode cX6_turn 44 = .ok (.dup, 1) := by decide +kernel
theorem dX6_turn_45 : decode cX6_turn 45 = .ok (.ldc 117, 2) := by decide +kernel
theorem dX6_turn_47 : decode cX6_turn 47 = .ok (.invokespecial 119, 3) := by decide +kernel
theorem dX6_turn_50 : decode cX6_turn 50 = .ok (.athrow, 1) := by decide +kernel
theorem dX6_turn_51 : decode cX6_turn 51 = .ok (.aload_n 0, 1) := by decide +kernel
theorem dX6_turn_52 : decode cX6_turn 52 = .ok (.dload_n 1, 1) := by decide +kernel
theorem dX6_turn_53 : decode cX6_turn 53 = .ok (.invokestatic 120, 3) := by decide +kernel
theorem dX6_turn_56 : decode cX6_turn 56 = .ok (.invokevirtual 124, 3) := by decide +kernel
theorem dX6_turn_59 : decode cX6_turn 59 = .ok (.invokestatic 128, 3) := by decide +kernel
theorem dX6_turn_62 : decode cX6_turn 62 = .ok (.dreturn, 1) := by decide +kernel
set_option maxRecDepth 20000 in
theorem ggX6_back_X4_stands : GoodIn wsX6_back wsX4_stands := goodIn_r _ [13, 14, 101, 102, 103, 104, 105, 106] (by decide +kernel) (by decide +kernel)
set_option maxRecDepth 20000 in
theorem gX6_back_X4_stands : GoodIn wsX6_back (wsV RX6 78 RX4 yX4_stands wsX4_stands) := goodIn_app (goodIn_of _ (by decide +kernel)) ggX6_back_X4_stands
set_option maxRecDepth 20000 in
theorem ggX6_back_X6_sixteenths : GoodIn wsX6_back wsX6_sixteenths := goodIn_r _ [18, 19] (by decide +kernel) (by decide +kernel)
set_option maxRecDepth 20000 in
theorem gX6_back_X6_sixteenths : GoodIn wsX6_back (va_wsS RX6 120 yX6_sixteenths wsX6_sixteenths) := goodIn_app (goodIn_of _ (by decide +kernel)) ggX6_back_X6_sixteenths
set_option maxRecDepth 20000 in
theorem ggX6_back_X6_goBackwards : GoodIn wsX6_back wsX6_goBackwards := goodIn_r _ [23, 6, 24, 25, 26, 12, 27, 28, 29, 30, 17, 31, 32, 33, 34, 35, 36, 37, 7, 38, 39, 40, 41, 42, 43, 44, 45, 46, 47, 48, 49, 50, 51, 52, 53, 54, 55, 56, 57, 58, 59, 60, 61, 62, 63, 64, 65, 66, 67, 68, 69, 70, 71, 72, 73, 78, 79, 80, 81, 82, 83, 84, 85, 86, 87, 88, 89, 101, 102, 103, 104, 105, 106, 107, 108, 109, 110, 111, 112, 113, 90, 91, 92, 93, 94, 95, 96, 97, 98, 99, 100] (by decide +kernel) (by decide +kernel)
set_option maxRecDepth 20000 in
theorem gX6_back_X6_goBackwards : GoodIn wsX6_back (wsV RX6 138 RX6 yX6_goBackwards wsX6_goBackwards) := goodIn_app (goodIn_of _ (by decide +kernel)) ggX6_back_X6_goBackwards
set_option maxRecDepth 20000 in
theorem ggX6_back_X6_degrees : GoodIn wsX6_back wsX6_degrees := goodIn_r _ [76, 77] (by decide +kernel) (by decide +kernel)
set_option maxRecDepth 20000 in
theorem gX6_back_X6_degrees : GoodIn wsX6_back (va_wsS RX6 128 yX6_degrees wsX6_degrees) := goodIn_app (goodIn_of _ (by decide +kernel)) ggX6_back_X6_degrees
theorem dX6_back_0 : decode cX6_back 0 = .ok (.aload_n 0, 1) := by decide +kernel
theorem dX6_back_1 : decode cX6_back 1 = .ok (.getfield 65, 3) := by decide +kernel
theorem dX6_back_4 : decode cX6_back 4 = .ok (.ifCond .eq 25, 3) := by decide +kernel
theorem dX6_back_7 : decode cX6_back 7 = .ok (.aload_n 0, 1) := by decide +kernel
theorem dX6_back_8 : decode cX6_back 8 = .ok (.getfield 19, 3) := by decide +kernel
theorem dX6_back_11 : decode cX6_back 11 = .ok (.invokevirtual 78, 3) := by decide +kernel
theorem dX6_back_14 : decode cX6_back 14 = .ok (.ifCond .eq 15, 3) := by decide +kernel
theorem dX6_back_17 : decode cX6_back 17 = .ok (.aload_n 0, 1) := by decide +kernel
theorem dX6_back_18 : decode cX6_back 18 = .ok (.getfield 40, 3) := by decide +kernel
theorem dX6_back_21 : decode cX6_back 21 = .ok (.getfield 93, 3) := by decide +kernel
theorem dX6_back_24 : decode cX6_back 24 = .ok (.lconst 0, 1) := by decide +kernel
theorem dX6_back_25 : decode cX6_back 25 = .ok (.lcmp, 1) := by decide +kernel
theorem dX6_back_26 : decode cX6_back 26 = .ok (.ifCond .ne 13, 3) := by decide +kernel
theorem dX6_back_29 : decode cX6_back 29 = .ok (.new 106, 3) := by decide +kernel
theorem dX6_back_32 : decode cX6_back 32 = .ok (.dup, 1) := by decide +kernel
theorem dX6_back_33 : decode cX6_back 33 = .ok (.ldc 132, 2) := by decide +kernel
theorem dX6_back_35 : decode cX6_back 35 = .ok (.invokespecial 110, 3) := by decide +kernel
theorem dX6_back_38 : decode cX6_back 38 = .ok (.athrow, 1) := by decide +kernel
theorem dX6_back_39 : decode cX6_back 39 = .ok (.dload_n 1, 1) := by decide +kernel
theorem dX6_back_40 : decode cX6_back 40 = .ok (.dconst 0, 1) := by decide +kernel
theorem dX6_back_41 : decode cX6_back 41 = .ok (.dcmp .l, 1) := by decide +kernel
theorem dX6_back_42 : decode cX6_back 42 = .ok (.ifCond .lt 11, 3) := by decide +kernel
theorem dX6_back_45 : decode cX6_back 45 = .ok (.dload_n 1, 1) := by decide +kernel
theorem dX6_back_46 : decode cX6_back 46 = .ok (.ldc2_w 134, 3) := by decide +kernel
theorem dX6_back_49 : decode cX6_back 49 = .ok (.dcmp .g, 1) := by decide +kernel
theorem dX6_back_50 : decode cX6_back 50 = .ok (.ifCond .le 13, 3) := by decide +kernel
theorem dX6_back_53 : decode cX6_back 53 = .ok (.new 115, 3) := by decide +kernel
theorem dX6_back_56 : decode cX6_back 56 = .ok (.dup, 1) := by decide +kernel
theorem dX6_back_57 : decode cX6_back 57 = .ok (.ldc 136, 2) := by decide +kernel
theorem dX6_back_59 : decode cX6_back 59 = .ok (.invokespecial 119, 3) := by decide +kernel
theorem dX6_back_62 : decode cX6_back 62 = .ok (.athrow, 1) := by decide +kernel
theorem dX6_back_63 : decode cX6_back 63 = .ok (.aload_n 0, 1) := by decide +kernel
theorem dX6_back_64 : decode cX6_back 64 = .ok (.dload_n 1, 1) := by decide +kernel
theorem dX6_back_65 : decode cX6_back 65 = .ok (.invokestatic 120, 3) := by decide +kernel
theorem dX6_back_68 : decode cX6_back 68 = .ok (.invokevirtual 138, 3) := by decide +kernel
theorem dX6_back_71 : decode cX6_back 71 = .ok (.aload_n 0, 1) := by decide +kernel
theorem dX6_back_72 : decode cX6_back 72 = .ok (.getfield 19, 3) := by decide +kernel
theorem dX6_back_75 : decode cX6_back 75 = .ok (.getfield 142, 3) := by decide +kernel
theorem dX6_back_78 : decode cX6_back 78 = .ok (.invokestatic 128, 3) := by decide +kernel
theorem dX6_back_81 : decode cX6_back 81 = .ok (.dreturn, 1) := by decide +kernel
theorem dX6_weft_0 : decode cX6_weft 0 = .ok (.aload_n 0, 1) := by decide +kernel
theorem dX6_weft_1 : decode cX6_weft 1 = .ok (.getfield 65, 3) := by decide +kernel
theorem dX6_weft_4 : decode cX6_weft 4 = .ok (.ifCond .ne 5, 3) := by decide +kernel
theorem dX6_weft_7 : decode cX6_weft 7 = .ok (.iconst 0, 1) := by decide +kernel
theorem dX6_weft_8 : decode cX6_weft 8 = .ok (.ireturn, 1) := by decide +kernel
theorem dX6_weft_9 : decode cX6_weft 9 = .ok (.aload_n 0, 1) := by decide +kernel
theorem dX6_weft_10 : decode cX6_weft 10 = .ok (.iload_n 1, 1) := by decide +kernel
theorem dX6_weft_11 : decode cX6_weft 11 = .ok (.putfield 61, 3) := by decide +kernel
theorem dX6_weft_14 : decode cX6_weft 14 = .ok (.iconst 1, 1) := by decide +kernel
theorem dX6_weft_15 : decode cX6_weft 15 = .ok (.ireturn, 1) := by decide +kernel
set_option maxRecDepth 20000 in
theorem ggX6_findPick_X4_stands : GoodIn wsX6_findPick wsX4_stands := goodIn_r _ [8, 9, 77, 78, 79, 80, 81, 82] (by decide +kernel) (by decide +kernel)
set_option maxRecDepth 20000 in
theorem gX6_findPick_X4_stands : GoodIn wsX6_findPick (wsV RX6 78 RX4 yX4_stands wsX4_stands) := goodIn_app (goodIn_of _ (by decide +kernel)) ggX6_findPick_X4_stands
set_option maxRecDepth 20000 in
theorem ggX6_findPick_X6_goBackwards : GoodIn wsX6_findPick wsX6_goBackwards := goodIn_r _ [14, 2, 15, 16, 17, 7, 18, 19, 20, 21, 13, 22, 3, 23, 24, 25, 26, 27, 28, 29, 30, 31, 32, 33, 34, 35, 36, 37, 38, 39, 40, 41, 42, 43, 44, 45, 46, 47, 48, 49, 50, 51, 52, 53, 54, 55, 56, 57, 58, 59, 60, 61, 62, 63, 64, 65, 66, 67, 68, 69, 70, 71, 72, 73, 74, 75, 76, 77, 78, 79, 80, 81, 82, 83, 84, 85, 86, 87, 88, 89, 90, 91, 92, 93, 94, 95, 96, 97, 98, 99, 100] (by decide +kernel) (by decide +kernel)
set_option maxRecDepth 20000 in
theorem gX6_findPick_X6_goBackwards : GoodIn wsX6_findPick (wsV RX6 138 RX6 yX6_goBackwards wsX6_goBackwards) := goodIn_app (goodIn_of _ (by decide +kernel)) ggX6_findPick_X6_goBackwards
theorem dX6_findPick_0 : decode cX6_findPick 0 = .ok (.aload_n 0, 1) := by decide +kernel
theorem dX6_findPick_1 : decode cX6_findPick 1 = .ok (.getfield 65, 3) := by decide +kernel
theorem dX6_findPick_4 : decode cX6_findPick 4 = .ok (.ifCond .eq 21, 3) := by decide +kernel
theorem dX6_findPick_7 : decode cX6_findPick 7 = .ok (.aload_n 0, 1) := by decide +kernel
theorem dX6_findPick_8 : decode cX6_findPick 8 = .ok (.getfield 19, 3) := by decide +kernel
theorem dX6_findPick_11 : decode cX6_findPick 11 = .ok (.invokevirtual 78, 3) := by decide +kernel
theorem dX6_findPick_14 : decode cX6_findPick 14 = .ok (.ifCond .eq 11, 3) := by decide +kernel
theorem dX6_findPick_17 : decode cX6_findPick 17 = .ok (.aload_n 0, 1) := by decide +kernel
theorem dX6_findPick_18 : decode cX6_findPick 18 = .ok (.getfield 55, 3) := by decide +kernel
theorem dX6_findPick_21 : decode cX6_findPick 21 = .ok (.iconst 2, 1) := by decide +kernel
theorem dX6_findPick_22 : decode cX6_findPick 22 = .ok (.if_icmp .eq 5, 3) := by decide +kernel
theorem dX6_findPick_25 : decode cX6_findPick 25 = .ok (.iconst 0, 1) := by decide +kernel
theorem dX6_findPick_26 : decode cX6_findPick 26 = .ok (.ireturn, 1) := by decide +kernel
theorem dX6_findPick_27 : decode cX6_findPick 27 = .ok (.aload_n 0, 1) := by decide +kernel
theorem dX6_findPick_28 : decode cX6_findPick 28 = .ok (.getfield 19, 3) := by decide +kernel
theorem dX6_findPick_31 : decode cX6_findPick 31 = .ok (.getfield 142, 3) := by decide +kernel
theorem dX6_findPick_34 : decode cX6_findPick 34 = .ok (.sipush 960, 3) := by decide +kernel
theorem dX6_findPick_37 : decode cX6_findPick 37 = .ok (.if_icmp .le 18, 3) := by decide +kernel
theorem dX6_findPick_40 : decode cX6_findPick 40 = .ok (.aload_n 0, 1) := by decide +kernel
theorem dX6_findPick_41 : decode cX6_findPick 41 = .ok (.aload_n 0, 1) := by decide +kernel
theorem dX6_findPick_42 : decode cX6_findPick 42 = .ok (.getfield 19, 3) := by decide +kernel
theorem dX6_findPick_45 : decode cX6_findPick 45 = .ok (.getfield 142, 3) := by decide +kernel
theorem dX6_findPick_48 : decode cX6_findPick 48 = .ok (.sipush 960, 3) := by decide +kernel
theorem dX6_findPick_51 : decode cX6_findPick 51 = .ok (.isub, 1) := by decide +kernel
theorem dX6_findPick_52 : decode cX6_findPick 52 = .ok (.invokevirtual 138, 3) := by decide +kernel
theorem dX6_findPick_55 : decode cX6_findPick 55 = .ok (.iconst 1, 1) := by decide +kernel
theorem dX6_findPick_56 : decode cX6_findPick 56 = .ok (.ireturn, 1) := by decide +kernel
set_option maxRecDepth 20000 in
theorem ggX6_jump_X4_stands : GoodIn wsX6_jump wsX4_stands := goodIn_r _ [9, 10, 29, 30, 31, 32, 33, 34] (by decide +kernel) (by decide +kernel)
set_option maxRecDepth 20000 in
theorem gX6_jump_X4_stands : GoodIn wsX6_jump (wsV RX6 78 RX4 yX4_stands wsX4_stands) := goodIn_app (goodIn_of _ (by decide +kernel)) ggX6_jump_X4_stands
set_option maxRecDepth 20000 in
theorem ggX6_jump_X1_has : GoodIn wsX6_jump wsX1_has := goodIn_r _ [15, 16, 35, 36, 37, 38, 39, 40, 41, 42, 43, 44, 45] (by decide +kernel) (by decide +kernel)
set_option maxRecDepth 20000 in
theorem gX6_jump_X1_has : GoodIn wsX6_jump (wsV RX6 145 RX1 yX1_has wsX1_has) := goodIn_app (goodIn_of _ (by decide +kernel)) ggX6_jump_X1_has
theorem dX6_jump_0 : decode cX6_jump 0 = .ok (.aload_n 0, 1) := by decide +kernel
theorem dX6_jump_1 : decode cX6_jump 1 = .ok (.getfield 65, 3) := by decide +kernel
theorem dX6_jump_4 : decode cX6_jump 4 = .ok (.ifCond .eq 37, 3) := by decide +kernel
theorem dX6_jump_7 : decode cX6_jump 7 = .ok (.aload_n 0, 1) := by decide +kernel
theorem dX6_jump_8 : decode cX6_jump 8 = .ok (.getfield 19, 3) := by decide +kernel
theorem dX6_jump_11 : decode cX6_jump 11 = .ok (.invokevirtual 78, 3) := by decide +kernel
theorem dX6_jump_14 : decode cX6_jump 14 = .ok (.ifCond .eq 27, 3) := by decide +kernel
theorem dX6_jump_17 : decode cX6_jump 17 = .ok (.aload_n 0, 1) := by decide +kernel
theorem dX6_jump_18 : decode cX6_jump 18 = .ok (.getfield 19, 3) := by decide +kernel
theorem dX6_jump_21 : decode cX6_jump 21 = .ok (.getfield 142, 3) := by decide +kernel
theorem dX6_jump_24 : decode cX6_jump 24 = .ok (.sipush 480, 3) := by decide +kernel
theorem dX6_jump_27 : decode cX6_jump 27 = .ok (.if_icmp .ge 14, 3) := by decide +kernel
theorem dX6_jump_30 : decode cX6_jump 30 = .ok (.aload_n 0, 1) := by decide +kernel
theorem dX6_jump_31 : decode cX6_jump 31 = .ok (.getfield 40, 3) := by decide +kernel
theorem dX6_jump_34 : decode cX6_jump 34 = .ok (.lload_n 1, 1) := by decide +kernel
theorem dX6_jump_35 : decode cX6_jump 35 = .ok (.invokevirtual 145, 3) := by decide +kernel
theorem dX6_jump_38 : decode cX6_jump 38 = .ok (.ifCond .ne 5, 3) := by decide +kernel
theorem dX6_jump_41 : decode cX6_jump 41 = .ok (.iconst 0, 1) := by decide +kernel
theorem dX6_jump_42 : decode cX6_jump 42 = .ok (.ireturn, 1) := by decide +kernel
theorem dX6_jump_43 : decode cX6_jump 43 = .ok (.aload_n 0, 1) := by decide +kernel
theorem dX6_jump_44 : decode cX6_jump 44 = .ok (.lload_n 1, 1) := by decide +kernel
theorem dX6_jump_45 : decode cX6_jump 45 = .ok (.putfield 44, 3) := by decide +kernel
theorem dX6_jump_48 : decode cX6_jump 48 = .ok (.iconst 1, 1) := by decide +kernel
theorem dX6_jump_49 : decode cX6_jump 49 = .ok (.ireturn, 1) := by decide +kernel
set_option maxRecDepth 20000 in
theorem ggX6_speed_X4_stands : GoodIn wsX6_speed wsX4_stands := goodIn_r _ [9, 10, 23, 24, 25, 26, 27, 28] (by decide +kernel) (by decide +kernel)
set_option maxRecDepth 20000 in
theorem gX6_speed_X4_stands : GoodIn wsX6_speed (wsV RX6 78 RX4 yX4_stands wsX4_stands) := goodIn_app (goodIn_of _ (by decide +kernel)) ggX6_speed_X4_stands
theorem dX6_speed_0 : decode cX6_speed 0 = .ok (.aload_n 0, 1) := by decide +kernel
theorem dX6_speed_1 : decode cX6_speed 1 = .ok (.getfield 19, 3) := by decide +kernel
theorem dX6_speed_4 : decode cX6_speed 4 = .ok (.invokevirtual 78, 3) := by decide +kernel
theorem dX6_speed_7 : decode cX6_speed 7 = .ok (.ifCond .eq 17, 3) := by decide +kernel
theorem dX6_speed_10 : decode cX6_speed 10 = .ok (.fload_n 1, 1) := by decide +kernel
theorem dX6_speed_11 : decode cX6_speed 11 = .ok (.ldc 149, 2) := by decide +kernel
theorem dX6_speed_13 : decode cX6_speed 13 = .ok (.fcmp .l, 1) := by decide +kernel
theorem dX6_speed_14 : decode cX6_speed 14 = .ok (.ifCond .lt 10, 3) := by decide +kernel
theorem dX6_speed_17 : decode cX6_speed 17 = .ok (.fload_n 1, 1) := by decide +kernel
theorem dX6_speed_18 : decode cX6_speed 18 = .ok (.ldc 150, 2) := by decide +kernel
theorem dX6_speed_20 : decode cX6_speed 20 = .ok (.fcmp .g, 1) := by decide +kernel
theorem dX6_speed_21 : decode cX6_speed 21 = .ok (.ifCond .le 5, 3) := by decide +kernel
theorem dX6_speed_24 : decode cX6_speed 24 = .ok (.iconst 0, 1) := by decide +kernel
theorem dX6_speed_25 : decode cX6_speed 25 = .ok (.ireturn, 1) := by decide +kernel
theorem dX6_speed_26 : decode cX6_speed 26 = .ok (.aload_n 0, 1) := by decide +kernel
theorem dX6_speed_27 : decode cX6_speed 27 = .ok (.getfield 19, 3) := by decide +kernel
theorem dX6_speed_30 : decode cX6_speed 30 = .ok (.fload_n 1, 1) := by decide +kernel
theorem dX6_speed_31 : decode cX6_speed 31 = .ok (.ldc 151, 2) := by decide +kernel
theorem dX6_speed_33 : decode cX6_speed 33 = .ok (.fmul, 1) := by decide +kernel
theorem dX6_speed_34 : decode cX6_speed 34 = .ok (.f2i, 1) := by decide +kernel
theorem dX6_speed_35 : decode cX6_speed 35 = .ok (.putfield 152, 3) := by decide +kernel
theorem dX6_speed_38 : decode cX6_speed 38 = .ok (.iconst 1, 1) := by decide +kernel
theorem dX6_speed_39 : decode cX6_speed 39 = .ok (.ireturn, 1) := by decide +kernel
set_option maxRecDepth 20000 in
theorem ggX6_cut_X4_stand : GoodIn wsX6_cut wsX4_stand := goodIn_r _ [13, 14, 15, 41, 42, 43, 44, 45, 46] (by decide +kernel) (by decide +kernel)
set_option maxRecDepth 20000 in
theorem gX6_cut_X4_stand : GoodIn wsX6_cut (wsV RX6 155 RX4 yX4_stand wsX4_stand) := goodIn_app (goodIn_of _ (by decide +kernel)) ggX6_cut_X4_stand
set_option maxRecDepth 20000 in
theorem ggX6_cut_X0_forget : GoodIn wsX6_cut wsX0_forget := goodIn_r _ [20, 21, 47, 48, 49, 50, 51, 52, 53] (by decide +kernel) (by decide +kernel)
set_option maxRecDepth 20000 in
theorem gX6_cut_X0_forget : GoodIn wsX6_cut (wsV RX6 158 RX0 yX0_forget wsX0_forget) := goodIn_app (goodIn_of _ (by decide +kernel)) ggX6_cut_X0_forget
set_option maxRecDepth 20000 in
theorem ggX6_cut_X3_spoilLast : GoodIn wsX6_cut wsX3_spoilLast := goodIn_r _ [26, 27, 28, 54, 55, 56] (by decide +kernel) (by decide +kernel)
set_option maxRecDepth 20000 in
theorem gX6_cut_X3_spoilLast : GoodIn wsX6_cut (wsV RX6 161 RX3 yX3_spoilLast wsX3_spoilLast) := goodIn_app (goodIn_of _ (by decide +kernel)) ggX6_cut_X3_spoilLast
theorem dX6_cut_0 : decode cX6_cut 0 = .ok (.aload_n 0, 1) := by decide +kernel
theorem dX6_cut_1 : decode cX6_cut 1 = .ok (.getfield 65, 3) := by decide +kernel
theorem dX6_cut_4 : decode cX6_cut 4 = .ok (.ifCond .ne 5, 3) := by decide +kernel
theorem dX6_cut_7 : decode cX6_cut 7 = .ok (.iconst 0, 1) := by decide +kernel
theorem dX6_cut_8 : decode cX6_cut 8 = .ok (.ireturn, 1) := by decide +kernel
theorem dX6_cut_9 : decode cX6_cut 9 = .ok (.aload_n 0, 1) := by decide +kernel
theorem dX6_cut_10 : decode cX6_cut 10 = .ok (.iconst 0, 1) := by decide +kernel
theorem dX6_cut_11 : decode cX6_cut 11 = .ok (.putfield 65, 3) := by decide +kernel
theorem dX6_cut_14 : decode cX6_cut 14 = .ok (.aload_n 0, 1) := by decide +kernel
theorem dX6_cut_15 : decode cX6_cut 15 = .ok (.getfield 19, 3) := by decide +kernel
theorem dX6_cut_18 : decode cX6_cut 18 = .ok (.invokevirtual 155, 3) := by decide +kernel
theorem dX6_cut_21 : decode cX6_cut 21 = .ok (.aload_n 0, 1) := by decide +kernel
theorem dX6_cut_22 : decode cX6_cut 22 = .ok (.iconst 0, 1) := by decide +kernel
theorem dX6_cut_23 : decode cX6_cut 23 = .ok (.putfield 55, 3) := by decide +kernel
theorem dX6_cut_26 : decode cX6_cut 26 = .ok (.aload_n 0, 1) := by decide +kernel
theorem dX6_cut_27 : decode cX6_cut 27 = .ok (.iconst 0, 1) := by decide +kernel
theorem dX6_cut_28 : decode cX6_cut 28 = .ok (.putfield 61, 3) := by decide +kernel
theorem dX6_cut_31 : decode cX6_cut 31 = .ok (.aload_n 0, 1) := by decide +kernel
theorem dX6_cut_32 : decode cX6_cut 32 = .ok (.iconst 0, 1) := by decide +kernel
theorem dX6_cut_33 : decode cX6_cut 33 = .ok (.putfield 48, 3) := by decide +kernel
theorem dX6_cut_36 : decode cX6_cut 36 = .ok (.aload_n 0, 1) := by decide +kernel
theorem dX6_cut_37 : decode cX6_cut 37 = .ok (.iconst 0, 1) := by decide +kernel
theorem dX6_cut_38 : decode cX6_cut 38 = .ok (.putfield 52, 3) := by decide +kernel
theorem dX6_cut_41 : decode cX6_cut 41 = .ok (.aload_n 0, 1) := by decide +kernel
theorem dX6_cut_42 : decode cX6_cut 42 = .ok (.getfield 26, 3) := by decide +kernel
theorem dX6_cut_45 : decode cX6_cut 45 = .ok (.invokevirtual 158, 3) := by decide +kernel
theorem dX6_cut_48 : decode cX6_cut 48 = .ok (.iload_n 1, 1) := by decide +kernel
theorem dX6_cut_49 : decode cX6_cut 49 = .ok (.ifCond .eq 10, 3) := by decide +kernel
theorem dX6_cut_52 : decode cX6_cut 52 = .ok (.aload_n 0, 1) := by decide +kernel
theorem dX6_cut_53 : decode cX6_cut 53 = .ok (.getfield 33, 3) := by decide +kernel
theorem dX6_cut_56 : decode cX6_cut 56 = .ok (.invokevirtual 161, 3) := by decide +kernel
theorem dX6_cut_59 : decode cX6_cut 59 = .ok (.iconst 1, 1) := by decide +kernel
theorem dX6_cut_60 : decode cX6_cut 60 = .ok (.ireturn, 1) := by decide +kernel
set_option maxRecDepth 20000 in
theorem ggX6_on_X6_recall : GoodIn wsX6_on wsX6_recall := goodIn_r _ [9, 10, 3, 11, 12, 13, 14, 15, 16, 17, 18, 19, 20, 21, 22, 23, 24, 25, 26, 27, 28, 29, 30, 31, 32, 33, 34, 35, 36, 37, 38, 39, 40, 41, 42, 43, 44, 45, 46, 47, 48, 49, 50, 51, 52, 53, 54, 55, 56, 57, 58, 59, 60, 61, 62, 63, 64, 65, 66, 67, 68, 69, 70, 71, 72, 73] (by decide +kernel) (by decide +kernel)
set_option maxRecDepth 20000 in
theorem gX6_on_X6_recall : GoodIn wsX6_on (wsV RX6 164 RX6 yX6_recall wsX6_recall) := goodIn_app (goodIn_of _ (by decide +kernel)) ggX6_on_X6_recall
theorem dX6_on_0 : decode cX6_on 0 = .ok (.aload_n 0, 1) := by decide +kernel
theorem dX6_on_1 : decode cX6_on 1 = .ok (.getfield 65, 3) := by decide +kernel
theorem dX6_on_4 : decode cX6_on 4 = .ok (.ifCond .eq 5, 3) := by decide +kernel
theorem dX6_on_7 : decode cX6_on 7 = .ok (.iconst 0, 1) := by decide +kernel
theorem dX6_on_8 : decode cX6_on 8 = .ok (.ireturn, 1) := by decide +kernel
theorem dX6_on_9 : decode cX6_on 9 = .ok (.aload_n 0, 1) := by decide +kernel
theorem dX6_on_10 : decode cX6_on 10 = .ok (.iconst 1, 1) := by decide +kernel
theorem dX6_on_11 : decode cX6_on 11 = .ok (.putfield 65, 3) := by decide +kernel
theorem dX6_on_14 : decode cX6_on 14 = .ok (.aload_n 0, 1) := by decide +kernel
theorem dX6_on_15 : decode cX6_on 15 = .ok (.aload_n 0, 1) := by decide +kernel
theorem dX6_on_16 : decode cX6_on 16 = .ok (.invokevirtual 164, 3) := by decide +kernel
theorem dX6_on_19 : decode cX6_on 19 = .ok (.putfield 44, 3) := by decide +kernel
theorem dX6_on_22 : decode cX6_on 22 = .ok (.aload_n 0, 1) := by decide +kernel
theorem dX6_on_23 : decode cX6_on 23 = .ok (.aload_n 0, 1) := by decide +kernel
theorem dX6_on_24 : decode cX6_on 24 = .ok (.getfield 19, 3) := by decide +kernel
theorem dX6_on_27 : decode cX6_on 27 = .ok (.getfield 142, 3) := by decide +kernel
theorem dX6_on_30 : decode cX6_on 30 = .ok (.sipush 1440, 3) := by decide +kernel
theorem dX6_on_33 : decode cX6_on 33 = .ok (.if_icmp .lt 7, 3) := by decide +kernel
theorem dX6_on_36 : decode cX6_on 36 = .ok (.iconst 1, 1) := by decide +kernel
theorem dX6_on_37 : decode cX6_on 37 = .ok (.goto 4, 3) := by decide +kernel
theorem dX6_on_40 : decode cX6_on 40 = .ok (.iconst 0, 1) := by decide +kernel
theorem dX6_on_41 : decode cX6_on 41 = .ok (.putfield 55, 3) := by decide +kernel
theorem dX6_on_44 : decode cX6_on 44 = .ok (.iconst 1, 1) := by decide +kernel
theorem dX6_on_45 : decode cX6_on 45 = .ok (.ireturn, 1) := by decide +kernel
set_option maxRecDepth 20000 in
theorem ggX6_angle_X6_degrees : GoodIn wsX6_angle wsX6_degrees := goodIn_r _ [5, 6] (by decide +kernel) (by decide +kernel)
set_option maxRecDepth 20000 in
theorem gX6_angle_X6_degrees : GoodIn wsX6_angle (va_wsS RX6 128 yX6_degrees wsX6_degrees) := goodIn_app (goodIn_of _ (by decide +kernel)) ggX6_angle_X6_degrees
theorem dX6_angle_0 : decode cX6_angle 0 = .ok (.aload_n 0, 1) := by decide +kernel
theorem dX6_angle_1 : decode cX6_angle 1 = .ok (.getfield 19, 3) := by decide +kernel
theorem dX6_angle_4 : decode cX6_angle 4 = .ok (.getfield 142, 3) := by decide +kernel
theorem dX6_angle_7 : decode cX6_angle 7 = .ok (.invokestatic 128, 3) := by decide +kernel
theorem dX6_angle_10 : decode cX6_angle 10 = .ok (.dreturn, 1) := by decide +kernel
theorem dX6_left_0 : decode cX6_left 0 = .ok (.aload_n 0, 1) := by decide +kernel
theorem dX6_left_1 : decode cX6_left 1 = .ok (.getfield 19, 3) := by decide +kernel
theorem dX6_left_4 : decode cX6_left 4 = .ok (.getfield 168, 3) := by decide +kernel
theorem dX6_left_7 : decode cX6_left 7 = .ok (.i2f, 1) := by decide +kernel
theorem dX6_left_8 : decode cX6_left 8 = .ok (.ldc 171, 2) := by decide +kernel
theorem dX6_left_10 : decode cX6_left 10 = .ok (.fdiv, 1) := by decide +kernel
theorem dX6_left_11 : decode cX6_left 11 = .ok (.freturn, 1) := by decide +kernel
theorem dX6_roll_0 : decode cX6_roll 0 = .ok (.dload_n 1, 1) := by decide +kernel
theorem dX6_roll_1 : decode cX6_roll 1 = .ok (.ldc2_w 172, 3) := by decide +kernel
theorem dX6_roll_4 : decode cX6_roll 4 = .ok (.dcmp .l, 1) := by decide +kernel
theorem dX6_roll_5 : decode cX6_roll 5 = .ok (.ifCond .lt 11, 3) := by decide +kernel
theorem dX6_roll_8 : decode cX6_roll 8 = .ok (.dload_n 1, 1) := by decide +kernel
theorem dX6_roll_9 : decode cX6_roll 9 = .ok (.ldc2_w 174, 3) := by decide +kernel
theorem dX6_roll_12 : decode cX6_roll 12 = .ok (.dcmp .g, 1) := by decide +kernel
theorem dX6_roll_13 : decode cX6_roll 13 = .ok (.ifCond .le 5, 3) := by decide +kernel
theorem dX6_roll_16 : decode cX6_roll 16 = .ok (.dconst 0, 1) := by decide +kernel
theorem dX6_roll_17 : decode cX6_roll 17 = .ok (.dreturn, 1) := by decide +kernel
theorem dX6_roll_18 : decode cX6_roll 18 = .ok (.aload_n 0, 1) := by decide +kernel
theorem dX6_roll_19 : decode cX6_roll 19 = .ok (.getfield 26, 3) := by decide +kernel
theorem dX6_roll_22 : decode cX6_roll 22 = .ok (.getfield 176, 3) := by decide +kernel
theorem dX6_roll_25 : decode cX6_roll 25 = .ok (.dload_n 1, 1) := by decide +kernel
theorem dX6_roll_26 : decode cX6_roll 26 = .ok (.ldc2_w 179, 3) := by decide +kernel
theorem dX6_roll_29 : decode cX6_roll 29 = .ok (.dmul, 1) := by decide +kernel
theorem dX6_roll_30 : decode cX6_roll 30 = .ok (.d2l, 1) := by decide +kernel
theorem dX6_roll_31 : decode cX6_roll 31 = .ok (.lmul, 1) := by decide +kernel
theorem dX6_roll_32 : decode cX6_roll 32 = .ok (.lstore_n 3, 1) := by decide +kernel
theorem dX6_roll_33 : decode cX6_roll 33 = .ok (.lload_n 3, 1) := by decide +kernel
theorem dX6_roll_34 : decode cX6_roll 34 = .ok (.ldc2_w 181, 3) := by decide +kernel
theorem dX6_roll_37 : decode cX6_roll 37 = .ok (.lrem, 1) := by decide +kernel
theorem dX6_roll_38 : decode cX6_roll 38 = .ok (.l2d, 1) := by decide +kernel
theorem dX6_roll_39 : decode cX6_roll 39 = .ok (.ldc2_w 183, 3) := by decide +kernel
theorem dX6_roll_42 : decode cX6_roll 42 = .ok (.ddiv, 1) := by decide +kernel
theorem dX6_roll_43 : decode cX6_roll 43 = .ok (.dreturn, 1) := by decide +kernel
theorem dX6_letOff_0 : decode cX6_letOff 0 = .ok (.fload_n 1, 1) := by decide +kernel
theorem dX6_letOff_1 : decode cX6_letOff 1 = .ok (.ldc 185, 2) := by decide +kernel
theorem dX6_letOff_3 : decode cX6_letOff 3 = .ok (.fcmp .l, 1) := by decide +kernel
theorem dX6_letOff_4 : decode cX6_letOff 4 = .ok (.ifCond .lt 10, 3) := by decide +kernel
theorem dX6_letOff_7 : decode cX6_letOff 7 = .ok (.fload_n 1, 1) := by decide +kernel
theorem dX6_letOff_8 : decode cX6_letOff 8 = .ok (.ldc 186, 2) := by decide +kernel
theorem dX6_letOff_10 : decode cX6_letOff 10 = .ok (.fcmp .g, 1) := by decide +kernel
theorem dX6_letOff_11 : decode cX6_letOff 11 = .ok (.ifCond .le 5, 3) := by decide +kernel
theorem dX6_letOff_14 : decode cX6_letOff 14 = .ok (.iconst 0, 1) := by decide +kernel
theorem dX6_letOff_15 : decode cX6_letOff 15 = .ok (.ireturn, 1) := by decide +kernel
theorem dX6_letOff_16 : decode cX6_letOff 16 = .ok (.fload_n 1, 1) := by decide +kernel
theorem dX6_letOff_17 : decode cX6_letOff 17 = .ok (.ldc 151, 2) := by decide +kernel
theorem dX6_letOff_19 : decode cX6_letOff 19 = .ok (.fmul, 1) := by decide +kernel
theorem dX6_letOff_20 : decode cX6_letOff 20 = .ok (.f2l, 1) := by decide +kernel
theorem dX6_letOff_21 : decode cX6_letOff 21 = .ok (.lstore_n 2, 1) := by decide +kernel
theorem dX6_letOff_22 : decode cX6_letOff 22 = .ok (.lload_n 2, 1) := by decide +kernel
theorem dX6_letOff_23 : decode cX6_letOff 23 = .ok (.ldc2_w 187, 3) := by decide +kernel
theorem dX6_letOff_26 : decode cX6_letOff 26 = .ok (.lrem, 1) := by decide +kernel
theorem dX6_letOff_27 : decode cX6_letOff 27 = .ok (.l2i, 1) := by decide +kernel
theorem dX6_letOff_28 : decode cX6_letOff 28 = .ok (.ireturn, 1) := by decide +kernel
set_option maxRecDepth 20000 in
theorem ggX6_state_J9_floorDiv_f86c9 : GoodIn wsX6_state wsJ9_floorDiv_f86c9 := goodIn_r _ [12] (by decide +kernel) (by decide +kernel)
set_option maxRecDepth 20000 in
theorem gX6_state_J9_floorDiv_f86c9 : GoodIn wsX6_state (va_wsS RX6 194 yJ9_floorDiv_f86c9 wsJ9_floorDiv_f86c9) := goodIn_app (goodIn_of _ (by decide +kernel)) ggX6_state_J9_floorDiv_f86c9
theorem dX6_state_0 : decode cX6_state 0 = .ok (.iload_n 1, 1) := by decide +kernel
theorem dX6_state_1 : decode cX6_state 1 = .ok (.tableswitch 111 0 7 #[47, 55, 60, 65, 70, 75, 83, 98], 47) := by decide +kernel
theorem dX6_state_48 : decode cX6_state 48 = .ok (.aload_n 0, 1) := by decide +kernel
theorem dX6_state_49 : decode cX6_state 49 = .ok (.getfield 19, 3) := by decide +kernel
theorem dX6_state_52 : decode cX6_state 52 = .ok (.getfield 100, 3) := by decide +kernel
theorem dX6_state_55 : decode cX6_state 55 = .ok (.ireturn, 1) := by decide +kernel
theorem dX6_state_56 : decode cX6_state 56 = .ok (.aload_n 0, 1) := by decide +kernel
theorem dX6_state_57 : decode cX6_state 57 = .ok (.getfield 48, 3) := by decide +kernel
theorem dX6_state_60 : decode cX6_state 60 = .ok (.ireturn, 1) := by decide +kernel
theorem dX6_state_61 : decode cX6_state 61 = .ok (.aload_n 0, 1) := by decide +kernel
theorem dX6_state_62 : decode cX6_state 62 = .ok (.getfield 52, 3) := by decide +kernel
theorem dX6_state_65 : decode cX6_state 65 = .ok (.ireturn, 1) := by decide +kernel
theorem dX6_state_66 : decode cX6_state 66 = .ok (.aload_n 0, 1) := by decide +kernel
theorem dX6_state_67 : decode cX6_state 67 = .ok (.getfield 55, 3) := by decide +kernel
theorem dX6_state_70 : decode cX6_state 70 = .ok (.ireturn, 1) := by decide +kernel
theorem dX6_state_71 : decode cX6_state 71 = .ok (.aload_n 0, 1) := by decide +kernel
theorem dX6_state_72 : decode cX6_state 72 = .ok (.getfield 58, 3) := by decide +kernel
theorem dX6_state_75 : decode cX6_state 75 = .ok (.ireturn, 1) := by decide +kernel
theorem dX6_state_76 : decode cX6_state 76 = .ok (.aload_n 0, 1) := by decide +kernel
theorem dX6_state_77 : decode cX6_state 77 = .ok (.getfield 19, 3) := by decide +kernel
theorem dX6_state_80 : decode cX6_state 80 = .ok (.getfield 189, 3) := by decide +kernel
theorem dX6_state_83 : decode cX6_state 83 = .ok (.ireturn, 1) := by decide +kernel
theorem dX6_state_84 : decode cX6_state 84 = .ok (.aload_n 0, 1) := by decide +kernel
theorem dX6_state_85 : decode cX6_state 85 = .ok (.getfield 26, 3) := by decide +kernel
theorem dX6_state_88 : decode cX6_state 88 = .ok (.getfield 176, 3) := by decide +kernel
theorem dX6_state_91 : decode cX6_state 91 = .ok (.ldc2_w 192, 3) := by decide +kernel
theorem dX6_state_94 : decode cX6_state 94 = .ok (.invokestatic 194, 3) := by decide +kernel
theorem dX6_state_97 : decode cX6_state 97 = .ok (.l2i, 1) := by decide +kernel
theorem dX6_state_98 : decode cX6_state 98 = .ok (.ireturn, 1) := by decide +kernel
theorem dX6_state_99 : decode cX6_state 99 = .ok (.aload_n 0, 1) := by decide +kernel
theorem dX6_state_100 : decode cX6_state 100 = .ok (.getfield 65, 3) := by decide +kernel
theorem dX6_state_103 : decode cX6_state 103 = .ok (.ifCond .eq 7, 3) := by decide +kernel
theorem dX6_state_106 : decode cX6_state 106 = .ok (.iconst 1, 1) := by decide +kernel
theorem dX6_state_107 : decode cX6_state 107 = .ok (.goto 4, 3) := by decide +kernel
theorem dX6_state_110 : decode cX6_state 110 = .ok (.iconst 0, 1) := by decide +kernel
theorem dX6_state_111 : decode cX6_state 111 = .ok (.ireturn, 1) := by decide +kernel
theorem dX6_state_112 : decode cX6_state 112 = .ok (.iconst (-1), 1) := by decide +kernel
theorem dX6_state_113 : decode cX6_state 113 = .ok (.ireturn, 1) := by decide +kernel
theorem dX6_count_0 : decode cX6_count 0 = .ok (.iload_n 1, 1) := by decide +kernel
theorem dX6_count_1 : decode cX6_count 1 = .ok (.tableswitch 48 0 2 #[27, 32, 40], 27) := by decide +kernel
theorem dX6_count_28 : decode cX6_count 28 = .ok (.aload_n 0, 1) := by decide +kernel
theorem dX6_count_29 : decode cX6_count 29 = .ok (.getfield 44, 3) := by decide +kernel
theorem dX6_count_32 : decode cX6_count 32 = .ok (.lreturn, 1) := by decide +kernel
theorem dX6_count_33 : decode cX6_count 33 = .ok (.aload_n 0, 1) := by decide +kernel
theorem dX6_count_34 : decode cX6_count 34 = .ok (.getfield 26, 3) := by decide +kernel
theorem dX6_count_37 : decode cX6_count 37 = .ok (.getfield 200, 3) := by decide +kernel
theorem dX6_count_40 : decode cX6_count 40 = .ok (.lreturn, 1) := by decide +kernel
theorem dX6_count_41 : decode cX6_count 41 = .ok (.aload_n 0, 1) := by decide +kernel
theorem dX6_count_42 : decode cX6_count 42 = .ok (.getfield 19, 3) := by decide +kernel
theorem dX6_count_45 : decode cX6_count 45 = .ok (.getfield 203, 3) := by decide +kernel
theorem dX6_count_48 : decode cX6_count 48 = .ok (.lreturn, 1) := by decide +kernel
theorem dX6_count_49 : decode cX6_count 49 = .ok (.ldc2_w 206, 3) := by decide +kernel
theorem dX6_count_52 : decode cX6_count 52 = .ok (.lreturn, 1) := by decide +kernel
set_option maxRecDepth 20000 in
theorem ggX6_cloth_X0_tell : GoodIn wsX6_cloth wsX0_tell := goodIn_r _ [6, 7, 8, 9, 10, 11, 12, 13, 5, 14, 15, 16, 17, 18, 19, 32, 33, 34, 35, 36, 37, 38] (by decide +kernel) (by decide +kernel)
set_option maxRecDepth 20000 in
theorem gX6_cloth_X0_tell : GoodIn wsX6_cloth (wsV RX6 208 RX0 yX0_tell wsX0_tell) := goodIn_app (goodIn_of _ (by decide +kernel)) ggX6_cloth_X0_tell
theorem dX6_cloth_0 : decode cX6_cloth 0 = .ok (.aload_n 0, 1) := by decide +kernel
theorem dX6_cloth_1 : decode cX6_cloth 1 = .ok (.getfield 26, 3) := by decide +kernel
theorem dX6_cloth_4 : decode cX6_cloth 4 = .ok (.iload_n 1, 1) := by decide +kernel
theorem dX6_cloth_5 : decode cX6_cloth 5 = .ok (.iload_n 2, 1) := by decide +kernel
theorem dX6_cloth_6 : decode cX6_cloth 6 = .ok (.invokevirtual 208, 3) := by decide +kernel
theorem dX6_cloth_9 : decode cX6_cloth 9 = .ok (.ireturn, 1) := by decide +kernel
theorem dX6_degrees_0 : decode cX6_degrees 0 = .ok (.iload_n 0, 1) := by decide +kernel
theorem dX6_degrees_1 : decode cX6_degrees 1 = .ok (.i2d, 1) := by decide +kernel
theorem dX6_degrees_2 : decode cX6_degrees 2 = .ok (.ldc2_w 211, 3) := by decide +kernel
theorem dX6_degrees_5 : decode cX6_degrees 5 = .ok (.ddiv, 1) := by decide +kernel
theorem dX6_degrees_6 : decode cX6_degrees 6 = .ok (.dreturn, 1) := by decide +kernel
theorem dX6_sixteenths_0 : decode cX6_sixteenths 0 = .ok (.dload_n 0, 1) := by decide +kernel
theorem dX6_sixteenths_1 : decode cX6_sixteenths 1 = .ok (.ldc2_w 179, 3) := by decide +kernel
theorem dX6_sixteenths_4 : decode cX6_sixteenths 4 = .ok (.dmul, 1) := by decide +kernel
theorem dX6_sixteenths_5 : decode cX6_sixteenths 5 = .ok (.d2i, 1) := by decide +kernel
theorem dX6_sixteenths_6 : decode cX6_sixteenths 6 = .ok (.istore_n 2, 1) := by decide +kernel
theorem dX6_sixteenths_7 : decode cX6_sixteenths 7 = .ok (.iload_n 2, 1) := by decide +kernel
theorem dX6_sixteenths_8 : decode cX6_sixteenths 8 = .ok (.iconst 2, 1) := by decide +kernel
theorem dX6_sixteenths_9 : decode cX6_sixteenths 9 = .ok (.imul, 1) := by decide +kernel
theorem dX6_sixteenths_10 : decode cX6_sixteenths 10 = .ok (.ireturn, 1) := by decide +kernel
set_option maxRecDepth 20000 in
theorem ggX6_goForwards_X4_stands : GoodIn wsX6_goForwards wsX4_stands := goodIn_r _ [6, 7, 138, 139, 140, 141, 142, 143] (by decide +kernel) (by decide +kernel)
set_option maxRecDepth 20000 in
theorem gX6_goForwards_X4_stands : GoodIn wsX6_goForwards (wsV RX6 78 RX4 yX4_stands wsX4_stands) := goodIn_app (goodIn_of _ (by decide +kernel)) ggX6_goForwards_X4_stands
set_option maxRecDepth 20000 in
theorem ggX6_goForwards_X4_markAbove : GoodIn wsX6_goForwards wsX4_markAbove := goodIn_r _ [11, 12, 138, 139, 140, 141, 142, 143] (by decide +kernel) (by decide +kernel)
set_option maxRecDepth 20000 in
theorem gX6_goForwards_X4_markAbove : GoodIn wsX6_goForwards (wsV RX6 213 RX4 yX4_markAbove wsX4_markAbove) := goodIn_app (goodIn_of _ (by decide +kernel)) ggX6_goForwards_X4_markAbove
set_option maxRecDepth 20000 in
theorem ggX6_goForwards_X4_goTowards : GoodIn wsX6_goForwards wsX4_goTowards := goodIn_r _ [16, 12, 17, 18, 19, 20, 7, 21, 138, 139, 140, 141, 142, 143] (by decide +kernel) (by decide +kernel)
set_option maxRecDepth 20000 in
theorem gX6_goForwards_X4_goTowards : GoodIn wsX6_goForwards (wsV RX6 216 RX4 yX4_goTowards wsX4_goTowards) := goodIn_app (goodIn_of _ (by decide +kernel)) ggX6_goForwards_X4_goTowards
set_option maxRecDepth 20000 in
theorem ggX6_goForwards_X6_comeTo : GoodIn wsX6_goForwards wsX6_comeTo := goodIn_r _ [26, 27, 28, 29, 30, 31, 32, 33, 34, 35, 36, 37, 38, 39, 40, 41, 42, 43, 44, 45, 46, 47, 48, 49, 50, 51, 52, 53, 54, 55, 56, 57, 58, 59, 60, 61, 62, 63, 64, 65, 66, 25, 67, 68, 69, 1, 70, 71, 72, 5, 73, 7, 74, 21, 75, 76, 77, 78, 79, 80, 81, 82, 83, 84, 85, 86, 87, 88, 89, 90, 91, 92, 93, 94, 95, 96, 97, 98, 99, 100, 101, 102, 103, 104, 18, 19, 20, 105, 106, 107, 108, 109, 110, 111, 112, 113, 114, 115, 116, 117, 126, 127, 128, 129, 130, 131, 132, 133, 134, 135, 136, 137, 144, 145, 146, 147, 148, 149, 150, 151, 152, 153, 154, 138, 139, 140, 141, 142, 143, 155, 156, 157, 158, 159, 160, 161, 162, 163, 164] (by decide +kernel) (by decide +kernel)
set_option maxRecDepth 20000 in
theorem gX6_goForwards_X6_comeTo : GoodIn wsX6_goForwards (wsV RX6 219 RX6 yX6_comeTo wsX6_comeTo) := goodIn_app (goodIn_of _ (by decide +kernel)) ggX6_goForwards_X6_comeTo
set_option maxRecDepth 20000 in
theorem ggX6_goForwards_X4_standWhenSpent : GoodIn wsX6_goForwards wsX4_standWhenSpent := goodIn_r _ [121, 7, 21, 122, 123, 124, 5, 125, 138, 139, 140, 141, 142, 143] (by decide +kernel) (by decide +kernel)
set_option maxRecDepth 20000 in
theorem gX6_goForwards_X4_standWhenSpent : GoodIn wsX6_goForwards (wsV RX6 222 RX4 yX4_standWhenSpent wsX4_standWhenSpent) := goodIn_app (goodIn_of _ (by decide +kernel)) ggX6_goForwards_X4_standWhenSpent
theorem dX6_goForwards_0 : decode cX6_goForwards 0 = .ok (.iload_n 1, 1) := by decide +kernel
theorem dX6_goForwards_1 : decode cX6_goForwards 1 = .ok (.istore_n 2, 1) := by decide +kernel
theorem dX6_goForwards_2 : decode cX6_goForwards 2 = .ok (.iconst 0, 1) := by decide +kernel
theorem dX6_goForwards_3 : decode cX6_goForwards 3 = .ok (.istore_n 3, 1) := by decide +kernel
theorem dX6_goForwards_4 : decode cX6_goForwards 4 = .ok (.iload_n 3, 1) := by decide +kernel
theorem dX6_goForwards_5 : decode cX6_goForwards 5 = .ok (.bipush 64, 2) := by decide +kernel
theorem dX6_goForwards_7 : decode cX6_goForwards 7 = .ok (.if_icmp .ge 70, 3) := by decide +kernel
theorem dX6_goForwards_10 : decode cX6_goForwards 10 = .ok (.iload_n 2, 1) := by decide +kernel
theorem dX6_goForwards_11 : decode cX6_goForwards 11 = .ok (.ifCond .le 66, 3) := by decide +kernel
theorem dX6_goForwards_14 : decode cX6_goForwards 14 = .ok (.aload_n 0, 1) := by decide +kernel
theorem dX6_goForwards_15 : decode cX6_goForwards 15 = .ok (.getfield 19, 3) := by decide +kernel
theorem dX6_goForwards_18 : decode cX6_goForwards 18 = .ok (.invokevirtual 78, 3) := by decide +kernel
theorem dX6_goForwards_21 : decode cX6_goForwards 21 = .ok (.ifCond .ne 56, 3) := by decide +kernel
theorem dX6_goForwards_24 : decode cX6_goForwards 24 = .ok (.aload_n 0, 1) := by decide +kernel
theorem dX6_goForwards_25 : decode cX6_goForwards 25 = .ok (.getfield 19, 3) := by decide +kernel
theorem dX6_goForwards_28 : decode cX6_goForwards 28 = .ok (.invokevirtual 213, 3) := by decide +kernel
theorem dX6_goForwards_31 : decode cX6_goForwards 31 = .ok (.istore 4, 2) := by decide +kernel
theorem dX6_goForwards_33 : decode cX6_goForwards 33 = .ok (.iload_n 2, 1) := by decide +kernel
theorem dX6_goForwards_34 : decode cX6_goForwards 34 = .ok (.aload_n 0, 1) := by decide +kernel
theorem dX6_goForwards_35 : decode cX6_goForwards 35 = .ok (.getfield 19, 3) := by decide +kernel
theorem dX6_goForwards_38 : decode cX6_goForwards 38 = .ok (.iload 4, 2) := by decide +kernel
theorem dX6_goForwards_40 : decode cX6_goForwards 40 = .ok (.iload_n 2, 1) := by decide +kernel
theorem dX6_goForwards_41 : decode cX6_goForwards 41 = .ok (.invokevirtual 216, 3) := by decide +kernel
theorem dX6_goForwards_44 : decode cX6_goForwards 44 = .ok (.isub, 1) := by decide +kernel
theorem dX6_goForwards_45 : decode cX6_goForwards 45 = .ok (.istore_n 2, 1) := by decide +kernel
theorem dX6_goForwards_46 : decode cX6_goForwards 46 = .ok (.aload_n 0, 1) := by decide +kernel
theorem dX6_goForwards_47 : decode cX6_goForwards 47 = .ok (.getfield 19, 3) := by decide +kernel
theorem dX6_goForwards_50 : decode cX6_goForwards 50 = .ok (.getfield 142, 3) := by decide +kernel
theorem dX6_goForwards_53 : decode cX6_goForwards 53 = .ok (.iload 4, 2) := by decide +kernel
theorem dX6_goForwards_55 : decode cX6_goForwards 55 = .ok (.if_icmp .ne 9, 3) := by decide +kernel
theorem dX6_goForwards_58 : decode cX6_goForwards 58 = .ok (.aload_n 0, 1) := by decide +kernel
theorem dX6_goForwards_59 : decode cX6_goForwards 59 = .ok (.iload 4, 2) := by decide +kernel
theorem dX6_goForwards_61 : decode cX6_goForwards 61 = .ok (.invokevirtual 219, 3) := by decide +kernel
theorem dX6_goForwards_64 : decode cX6_goForwards 64 = .ok (.aload_n 0, 1) := by decide +kernel
theorem dX6_goForwards_65 : decode cX6_goForwards 65 = .ok (.getfield 19, 3) := by decide +kernel
theorem dX6_goForwards_68 : decode cX6_goForwards 68 = .ok (.invokevirtual 222, 3) := by decide +kernel
theorem dX6_goForwards_71 : decode cX6_goForwards 71 = .ok (.iinc 3 1, 3) := by decide +kernel
theorem dX6_goForwards_74 : decode cX6_goForwards 74 = .ok (.goto (-70), 3) := by decide +kernel
theorem dX6_goForwards_77 : decode cX6_goForwards 77 = .ok (.iload_n 1, 1) := by decide +kernel
theorem dX6_goForwards_78 : decode cX6_goForwards 78 = .ok (.iload_n 2, 1) := by decide +kernel
theorem dX6_goForwards_79 : decode cX6_goForwards 79 = .ok (.isub, 1) := by decide +kernel
theorem dX6_goForwards_80 : decode cX6_goForwards 80 = .ok (.ireturn, 1) := by decide +kernel
set_option maxRecDepth 20000 in
theorem ggX6_comeTo_X1_tell : GoodIn wsX6_comeTo wsX1_tell := goodIn_r _ [10, 11, 12, 13, 14, 15, 16, 17, 18, 19, 9, 20, 21, 22, 23, 24, 25, 26, 27, 28, 29, 30, 31, 32, 33, 34, 35, 36, 37, 112, 113, 114, 115, 116, 117, 118, 119, 120, 121, 122] (by decide +kernel) (by decide +kernel)
set_option maxRecDepth 20000 in
theorem gX6_comeTo_X1_tell : GoodIn wsX6_comeTo (wsV RX6 96 RX1 yX1_tell wsX1_tell) := goodIn_app (goodIn_of _ (by decide +kernel)) ggX6_comeTo_X1_tell
set_option maxRecDepth 20000 in
theorem ggX6_comeTo_X6_insert : GoodIn wsX6_comeTo wsX6_insert := goodIn_r _ [42, 43, 44, 45, 46, 47, 48, 49, 50, 51, 52, 53, 54, 100, 101, 102, 103, 104, 105, 106, 107, 108, 109, 110, 111, 123, 124, 125, 126, 127, 128] (by decide +kernel) (by decide +kernel)
set_option maxRecDepth 20000 in
theorem gX6_comeTo_X6_insert : GoodIn wsX6_comeTo (wsV RX6 225 RX6 yX6_insert wsX6_insert) := goodIn_app (goodIn_of _ (by decide +kernel)) ggX6_comeTo_X6_insert
set_option maxRecDepth 20000 in
theorem ggX6_comeTo_X3_write : GoodIn wsX6_comeTo wsX3_write := goodIn_r _ [59, 60, 61, 62, 63, 64, 65, 58, 66, 129, 130, 131] (by decide +kernel) (by decide +kernel)
set_option maxRecDepth 20000 in
theorem gX6_comeTo_X3_write : GoodIn wsX6_comeTo (wsV RX6 228 RX3 yX3_write wsX3_write) := goodIn_app (goodIn_of _ (by decide +kernel)) ggX6_comeTo_X3_write
set_option maxRecDepth 20000 in
theorem ggX6_comeTo_X6_endTurn : GoodIn wsX6_comeTo wsX6_endTurn := goodIn_r _ [70, 44, 71, 4, 3, 1, 2, 72, 5, 45, 6, 7, 8, 9, 10, 11, 12, 13, 14, 15, 16, 17, 18, 19, 20, 21, 22, 23, 24, 25, 26, 27, 28, 29, 30, 31, 32, 33, 34, 35, 36, 37, 73, 74, 75, 76, 77, 78, 79, 80, 81, 82, 83, 84, 85, 86, 87, 88, 89, 90, 91, 92, 93, 94, 95, 96, 97, 98, 99, 55, 56, 57, 58, 59, 60, 61, 62, 63, 64, 65, 66, 100, 101, 102, 103, 104, 105, 106, 107, 108, 109, 110, 111, 123, 124, 125, 126, 127, 128, 112, 113, 114, 115, 116, 117, 118, 119, 120, 121, 122, 132, 133, 134, 135, 136, 137, 138, 129, 130, 131] (by decide +kernel) (by decide +kernel)
set_option maxRecDepth 20000 in
theorem gX6_comeTo_X6_endTurn : GoodIn wsX6_comeTo (wsV RX6 232 RX6 yX6_endTurn wsX6_endTurn) := goodIn_app (goodIn_of _ (by decide +kernel)) ggX6_comeTo_X6_endTurn
theorem dX6_comeTo_0 : decode cX6_comeTo 0 = .ok (.iload_n 1, 1) := by decide +kernel
theorem dX6_comeTo_1 : decode cX6_comeTo 1 = .ok (.lookupswitch 94 #[(480, 35), (1440, 54), (4800, 61)], 35) := by decide +kernel
theorem dX6_comeTo_36 : decode cX6_comeTo 36 = .ok (.aload_n 0, 1) := by decide +kernel
theorem dX6_comeTo_37 : decode cX6_comeTo 37 = .ok (.aload_n 0, 1) := by decide +kernel
theorem dX6_comeTo_38 : decode cX6_comeTo 38 = .ok (.getfield 40, 3) := by decide +kernel
theorem dX6_comeTo_41 : decode cX6_comeTo 41 = .ok (.aload_n 0, 1) := by decide +kernel
theorem dX6_comeTo_42 : decode cX6_comeTo 42 = .ok (.getfield 44, 3) := by decide +kernel
theorem dX6_comeTo_45 : decode cX6_comeTo 45 = .ok (.iconst 1, 1) := by decide +kernel
theorem dX6_comeTo_46 : decode cX6_comeTo 46 = .ok (.invokevirtual 96, 3) := by decide +kernel
theorem dX6_comeTo_49 : decode cX6_comeTo 49 = .ok (.putfield 52, 3) := by decide +kernel
theorem dX6_comeTo_52 : decode cX6_comeTo 52 = .ok (.goto 47, 3) := by decide +kernel
theorem dX6_comeTo_55 : decode cX6_comeTo 55 = .ok (.aload_n 0, 1) := by decide +kernel
theorem dX6_comeTo_56 : decode cX6_comeTo 56 = .ok (.invokevirtual 225, 3) := by decide +kernel
theorem dX6_comeTo_59 : decode cX6_comeTo 59 = .ok (.goto 40, 3) := by decide +kernel
theorem dX6_comeTo_62 : decode cX6_comeTo 62 = .ok (.aload_n 0, 1) := by decide +kernel
theorem dX6_comeTo_63 : decode cX6_comeTo 63 = .ok (.aload_n 0, 1) := by decide +kernel
theorem dX6_comeTo_64 : decode cX6_comeTo 64 = .ok (.getfield 40, 3) := by decide +kernel
theorem dX6_comeTo_67 : decode cX6_comeTo 67 = .ok (.aload_n 0, 1) := by decide +kernel
theorem dX6_comeTo_68 : decode cX6_comeTo 68 = .ok (.getfield 44, 3) := by decide +kernel
theorem dX6_comeTo_71 : decode cX6_comeTo 71 = .ok (.iconst 0, 1) := by decide +kernel
theorem dX6_comeTo_72 : decode cX6_comeTo 72 = .ok (.invokevirtual 96, 3) := by decide +kernel
theorem dX6_comeTo_75 : decode cX6_comeTo 75 = .ok (.putfield 48, 3) := by decide +kernel
theorem dX6_comeTo_78 : decode cX6_comeTo 78 = .ok (.aload_n 0, 1) := by decide +kernel
theorem dX6_comeTo_79 : decode cX6_comeTo 79 = .ok (.getfield 33, 3) := by decide +kernel
theorem dX6_comeTo_82 : decode cX6_comeTo 82 = .ok (.sipush 300, 3) := by decide +kernel
theorem dX6_comeTo_85 : decode cX6_comeTo 85 = .ok (.aload_n 0, 1) := by decide +kernel
theorem dX6_comeTo_86 : decode cX6_comeTo 86 = .ok (.getfield 44, 3) := by decide +kernel
theorem dX6_comeTo_89 : decode cX6_comeTo 89 = .ok (.invokevirtual 228, 3) := by decide +kernel
theorem dX6_comeTo_92 : decode cX6_comeTo 92 = .ok (.goto 7, 3) := by decide +kernel
theorem dX6_comeTo_95 : decode cX6_comeTo 95 = .ok (.aload_n 0, 1) := by decide +kernel
theorem dX6_comeTo_96 : decode cX6_comeTo 96 = .ok (.invokevirtual 232, 3) := by decide +kernel
theorem dX6_comeTo_99 : decode cX6_comeTo 99 = .ok (.return_, 1) := by decide +kernel
set_option maxRecDepth 20000 in
theorem ggX6_insert_X4_orderBrake : GoodIn wsX6_insert wsX4_orderBrake := goodIn_r _ [8, 9, 10, 11, 12, 25, 26, 27, 28, 29, 30] (by decide +kernel) (by decide +kernel)
set_option maxRecDepth 20000 in
theorem gX6_insert_X4_orderBrake : GoodIn wsX6_insert (wsV RX6 103 RX4 yX4_orderBrake wsX4_orderBrake) := goodIn_app (goodIn_of _ (by decide +kernel)) ggX6_insert_X4_orderBrake
theorem dX6_insert_0 : decode cX6_insert 0 = .ok (.aload_n 0, 1) := by decide +kernel
theorem dX6_insert_1 : decode cX6_insert 1 = .ok (.getfield 61, 3) := by decide +kernel
theorem dX6_insert_4 : decode cX6_insert 4 = .ok (.ifCond .eq 19, 3) := by decide +kernel
theorem dX6_insert_7 : decode cX6_insert 7 = .ok (.aload_n 0, 1) := by decide +kernel
theorem dX6_insert_8 : decode cX6_insert 8 = .ok (.iconst 2, 1) := by decide +kernel
theorem dX6_insert_9 : decode cX6_insert 9 = .ok (.putfield 55, 3) := by decide +kernel
theorem dX6_insert_12 : decode cX6_insert 12 = .ok (.aload_n 0, 1) := by decide +kernel
theorem dX6_insert_13 : decode cX6_insert 13 = .ok (.getfield 19, 3) := by decide +kernel
theorem dX6_insert_16 : decode cX6_insert 16 = .ok (.invokevirtual 103, 3) := by decide +kernel
theorem dX6_insert_19 : decode cX6_insert 19 = .ok (.pop, 1) := by decide +kernel
theorem dX6_insert_20 : decode cX6_insert 20 = .ok (.goto 8, 3) := by decide +kernel
theorem dX6_insert_23 : decode cX6_insert 23 = .ok (.aload_n 0, 1) := by decide +kernel
theorem dX6_insert_24 : decode cX6_insert 24 = .ok (.iconst 1, 1) := by decide +kernel
theorem dX6_insert_25 : decode cX6_insert 25 = .ok (.putfield 55, 3) := by decide +kernel
theorem dX6_insert_28 : decode cX6_insert 28 = .ok (.aload_n 0, 1) := by decide +kernel
theorem dX6_insert_29 : decode cX6_insert 29 = .ok (.iconst 0, 1) := by decide +kernel
theorem dX6_insert_30 : decode cX6_insert 30 = .ok (.putfield 61, 3) := by decide +kernel
theorem dX6_insert_33 : decode cX6_insert 33 = .ok (.return_, 1) := by decide +kernel
set_option maxRecDepth 20000 in
theorem ggX6_endTurn_X1_tell : GoodIn wsX6_endTurn wsX1_tell := goodIn_r _ [14, 15, 16, 17, 18, 19, 20, 21, 22, 23, 13, 24, 25, 26, 27, 28, 29, 30, 31, 32, 33, 34, 35, 36, 37, 38, 39, 40, 41, 99, 100, 101, 102, 103, 104, 105, 106, 107, 108, 109] (by decide +kernel) (by decide +kernel)
set_option maxRecDepth 20000 in
theorem gX6_endTurn_X1_tell : GoodIn wsX6_endTurn (wsV RX6 96 RX1 yX1_tell wsX1_tell) := goodIn_app (goodIn_of _ (by decide +kernel)) ggX6_endTurn_X1_tell
set_option maxRecDepth 20000 in
theorem ggX6_endTurn_X0_beatUp : GoodIn wsX6_endTurn wsX0_beatUp := goodIn_r _ [46, 47, 48, 49, 50, 51, 52, 53, 54, 55, 56, 57, 58, 59, 60, 61, 62, 63, 45, 64, 110, 111, 112, 113, 114, 115, 116] (by decide +kernel) (by decide +kernel)
set_option maxRecDepth 20000 in
theorem gX6_endTurn_X0_beatUp : GoodIn wsX6_endTurn (wsV RX6 235 RX0 yX0_beatUp wsX0_beatUp) := goodIn_app (goodIn_of _ (by decide +kernel)) ggX6_endTurn_X0_beatUp
set_option maxRecDepth 20000 in
theorem ggX6_endTurn_X1_behind : GoodIn wsX6_endTurn wsX1_behind := goodIn_r _ [68, 21, 22, 23, 13, 24, 25, 99, 100, 101, 102, 103, 104, 105, 106, 107, 108, 109] (by decide +kernel) (by decide +kernel)
set_option maxRecDepth 20000 in
theorem gX6_endTurn_X1_behind : GoodIn wsX6_endTurn (wsV RX6 239 RX1 yX1_behind wsX1_behind) := goodIn_app (goodIn_of _ (by decide +kernel)) ggX6_endTurn_X1_behind
set_option maxRecDepth 20000 in
theorem ggX6_endTurn_X3_write : GoodIn wsX6_endTurn wsX3_write := goodIn_r _ [73, 74, 75, 76, 77, 78, 79, 72, 80, 117, 118, 119] (by decide +kernel) (by decide +kernel)
set_option maxRecDepth 20000 in
theorem gX6_endTurn_X3_write : GoodIn wsX6_endTurn (wsV RX6 228 RX3 yX3_write wsX3_write) := goodIn_app (goodIn_of _ (by decide +kernel)) ggX6_endTurn_X3_write
theorem dX6_endTurn_0 : decode cX6_endTurn 0 = .ok (.aload_n 0, 1) := by decide +kernel
theorem dX6_endTurn_1 : decode cX6_endTurn 1 = .ok (.getfield 55, 3) := by decide +kernel
theorem dX6_endTurn_4 : decode cX6_endTurn 4 = .ok (.iconst 1, 1) := by decide +kernel
theorem dX6_endTurn_5 : decode cX6_endTurn 5 = .ok (.if_icmp .ne 48, 3) := by decide +kernel
theorem dX6_endTurn_8 : decode cX6_endTurn 8 = .ok (.aload_n 0, 1) := by decide +kernel
theorem dX6_endTurn_9 : decode cX6_endTurn 9 = .ok (.getfield 26, 3) := by decide +kernel
theorem dX6_endTurn_12 : decode cX6_endTurn 12 = .ok (.aload_n 0, 1) := by decide +kernel
theorem dX6_endTurn_13 : decode cX6_endTurn 13 = .ok (.getfield 48, 3) := by decide +kernel
theorem dX6_endTurn_16 : decode cX6_endTurn 16 = .ok (.aload_n 0, 1) := by decide +kernel
theorem dX6_endTurn_17 : decode cX6_endTurn 17 = .ok (.getfield 52, 3) := by decide +kernel
theorem dX6_endTurn_20 : decode cX6_endTurn 20 = .ok (.aload_n 0, 1) := by decide +kernel
theorem dX6_endTurn_21 : decode cX6_endTurn 21 = .ok (.getfield 40, 3) := by decide +kernel
theorem dX6_endTurn_24 : decode cX6_endTurn 24 = .ok (.aload_n 0, 1) := by decide +kernel
theorem dX6_endTurn_25 : decode cX6_endTurn 25 = .ok (.getfield 44, 3) := by decide +kernel
theorem dX6_endTurn_28 : decode cX6_endTurn 28 = .ok (.iconst 2, 1) := by decide +kernel
theorem dX6_endTurn_29 : decode cX6_endTurn 29 = .ok (.invokevirtual 96, 3) := by decide +kernel
theorem dX6_endTurn_32 : decode cX6_endTurn 32 = .ok (.invokevirtual 235, 3) := by decide +kernel
theorem dX6_endTurn_35 : decode cX6_endTurn 35 = .ok (.aload_n 0, 1) := by decide +kernel
theorem dX6_endTurn_36 : decode cX6_endTurn 36 = .ok (.aload_n 0, 1) := by decide +kernel
theorem dX6_endTurn_37 : decode cX6_endTurn 37 = .ok (.getfield 40, 3) := by decide +kernel
theorem dX6_endTurn_40 : decode cX6_endTurn 40 = .ok (.aload_n 0, 1) := by decide +kernel
theorem dX6_endTurn_41 : decode cX6_endTurn 41 = .ok (.getfield 44, 3) := by decide +kernel
theorem dX6_endTurn_44 : decode cX6_endTurn 44 = .ok (.invokevirtual 239, 3) := by decide +kernel
theorem dX6_endTurn_47 : decode cX6_endTurn 47 = .ok (.putfield 44, 3) := by decide +kernel
theorem dX6_endTurn_50 : decode cX6_endTurn 50 = .ok (.goto 21, 3) := by decide +kernel
theorem dX6_endTurn_53 : decode cX6_endTurn 53 = .ok (.aload_n 0, 1) := by decide +kernel
theorem dX6_endTurn_54 : decode cX6_endTurn 54 = .ok (.getfield 55, 3) := by decide +kernel
theorem dX6_endTurn_57 : decode cX6_endTurn 57 = .ok (.iconst 2, 1) := by decide +kernel
theorem dX6_endTurn_58 : decode cX6_endTurn 58 = .ok (.if_icmp .ne 13, 3) := by decide +kernel
theorem dX6_endTurn_61 : decode cX6_endTurn 61 = .ok (.aload_n 0, 1) := by decide +kernel
theorem dX6_endTurn_62 : decode cX6_endTurn 62 = .ok (.dup, 1) := by decide +kernel
theorem dX6_endTurn_63 : decode cX6_endTurn 63 = .ok (.getfield 58, 3) := by decide +kernel
theorem dX6_endTurn_66 : decode cX6_endTurn 66 = .ok (.iconst 1, 1) := by decide +kernel
theorem dX6_endTurn_67 : decode cX6_endTurn 67 = .ok (.iadd, 1) := by decide +kernel
theorem dX6_endTurn_68 : decode cX6_endTurn 68 = .ok (.putfield 58, 3) := by decide +kernel
theorem dX6_endTurn_71 : decode cX6_endTurn 71 = .ok (.aload_n 0, 1) := by decide +kernel
theorem dX6_endTurn_72 : decode cX6_endTurn 72 = .ok (.iconst 0, 1) := by decide +kernel
theorem dX6_endTurn_73 : decode cX6_endTurn 73 = .ok (.putfield 55, 3) := by decide +kernel
theorem dX6_endTurn_76 : decode cX6_endTurn 76 = .ok (.aload_n 0, 1) := by decide +kernel
theorem dX6_endTurn_77 : decode cX6_endTurn 77 = .ok (.getfield 33, 3) := by decide +kernel
theorem dX6_endTurn_80 : decode cX6_endTurn 80 = .ok (.iconst 0, 1) := by decide +kernel
theorem dX6_endTurn_81 : decode cX6_endTurn 81 = .ok (.aload_n 0, 1) := by decide +kernel
theorem dX6_endTurn_82 : decode cX6_endTurn 82 = .ok (.getfield 44, 3) := by decide +kernel
theorem dX6_endTurn_85 : decode cX6_endTurn 85 = .ok (.invokevirtual 228, 3) := by decide +kernel
theorem dX6_endTurn_88 : decode cX6_endTurn 88 = .ok (.aload_n 0, 1) := by decide +kernel
theorem dX6_endTurn_89 : decode cX6_endTurn 89 = .ok (.getfield 19, 3) := by decide +kernel
theorem dX6_endTurn_92 : decode cX6_endTurn 92 = .ok (.iconst 0, 1) := by decide +kernel
theorem dX6_endTurn_93 : decode cX6_endTurn 93 = .ok (.putfield 142, 3) := by decide +kernel
theorem dX6_endTurn_96 : decode cX6_endTurn 96 = .ok (.aload_n 0, 1) := by decide +kernel
theorem dX6_endTurn_97 : decode cX6_endTurn 97 = .ok (.getfield 19, 3) := by decide +kernel
theorem dX6_endTurn_100 : decode cX6_endTurn 100 = .ok (.dup, 1) := by decide +kernel
theorem dX6_endTurn_101 : decode cX6_endTurn 101 = .ok (.getfield 203, 3) := by decide +kernel
theorem dX6_endTurn_104 : decode cX6_endTurn 104 = .ok (.lconst 1, 1) := by decide +kernel
theorem dX6_endTurn_105 : decode cX6_endTurn 105 = .ok (.ladd, 1) := by decide +kernel
theorem dX6_endTurn_106 : decode cX6_endTurn 106 = .ok (.putfield 203, 3) := by decide +kernel
theorem dX6_endTurn_109 : decode cX6_endTurn 109 = .ok (.return_, 1) := by decide +kernel
set_option maxRecDepth 20000 in
theorem ggX6_goBackwards_X4_markBelow : GoodIn wsX6_goBackwards wsX4_markBelow := goodIn_r _ [6] (by decide +kernel) (by decide +kernel)
set_option maxRecDepth 20000 in
theorem gX6_goBackwards_X4_markBelow : GoodIn wsX6_goBackwards (wsV RX6 243 RX4 yX4_markBelow wsX4_markBelow) := goodIn_app (goodIn_of _ (by decide +kernel)) ggX6_goBackwards_X4_markBelow
set_option maxRecDepth 20000 in
theorem ggX6_goBackwards_X6_undo : GoodIn wsX6_goBackwards wsX6_undo := goodIn_r _ [11, 12, 13, 14, 15, 10, 16, 17, 18, 19, 1, 20, 21, 22, 23, 24, 25, 26, 27, 28, 29, 30, 31, 32, 33, 34, 35, 36, 37, 38, 39, 40, 41, 42, 43, 44, 45, 46, 47, 48, 49, 50, 51, 52, 53, 54, 55, 56, 57, 58, 59, 60, 61, 62, 63, 64, 65, 66, 67, 68, 69, 70, 71, 72, 73, 74, 75, 76, 77, 78, 79, 80, 81, 82, 83, 84, 85, 86, 87, 88, 89, 90] (by decide +kernel) (by decide +kernel)
set_option maxRecDepth 20000 in
theorem gX6_goBackwards_X6_undo : GoodIn wsX6_goBackwards (wsV RX6 246 RX6 yX6_undo wsX6_undo) := goodIn_app (goodIn_of _ (by decide +kernel)) ggX6_goBackwards_X6_undo
theorem dX6_goBackwards_0 : decode cX6_goBackwards 0 = .ok (.iload_n 1, 1) := by decide +kernel
theorem dX6_goBackwards_1 : decode cX6_goBackwards 1 = .ok (.istore_n 2, 1) := by decide +kernel
theorem dX6_goBackwards_2 : decode cX6_goBackwards 2 = .ok (.aload_n 0, 1) := by decide +kernel
theorem dX6_goBackwards_3 : decode cX6_goBackwards 3 = .ok (.getfield 19, 3) := by decide +kernel
theorem dX6_goBackwards_6 : decode cX6_goBackwards 6 = .ok (.getfield 142, 3) := by decide +kernel
theorem dX6_goBackwards_9 : decode cX6_goBackwards 9 = .ok (.iconst 1, 1) := by decide +kernel
theorem dX6_goBackwards_10 : decode cX6_goBackwards 10 = .ok (.iadd, 1) := by decide +kernel
theorem dX6_goBackwards_11 : decode cX6_goBackwards 11 = .ok (.istore_n 3, 1) := by decide +kernel
theorem dX6_goBackwards_12 : decode cX6_goBackwards 12 = .ok (.iconst 0, 1) := by decide +kernel
theorem dX6_goBackwards_13 : decode cX6_goBackwards 13 = .ok (.istore 4, 2) := by decide +kernel
theorem dX6_goBackwards_15 : decode cX6_goBackwards 15 = .ok (.iload 4, 2) := by decide +kernel
theorem dX6_goBackwards_17 : decode cX6_goBackwards 17 = .ok (.bipush 64, 2) := by decide +kernel
theorem dX6_goBackwards_19 : decode cX6_goBackwards 19 = .ok (.if_icmp .ge 68, 3) := by decide +kernel
theorem dX6_goBackwards_22 : decode cX6_goBackwards 22 = .ok (.aload_n 0, 1) := by decide +kernel
theorem dX6_goBackwards_23 : decode cX6_goBackwards 23 = .ok (.getfield 19, 3) := by decide +kernel
theorem dX6_goBackwards_26 : decode cX6_goBackwards 26 = .ok (.iload_n 3, 1) := by decide +kernel
theorem dX6_goBackwards_27 : decode cX6_goBackwards 27 = .ok (.invokevirtual 243, 3) := by decide +kernel
theorem dX6_goBackwards_30 : decode cX6_goBackwards 30 = .ok (.istore 5, 2) := by decide +kernel
theorem dX6_goBackwards_32 : decode cX6_goBackwards 32 = .ok (.aload_n 0, 1) := by decide +kernel
theorem dX6_goBackwards_33 : decode cX6_goBackwards 33 = .ok (.getfield 19, 3) := by decide +kernel
theorem dX6_goBackwards_36 : decode cX6_goBackwards 36 = .ok (.getfield 142, 3) := by decide +kernel
theorem dX6_goBackwards_39 : decode cX6_goBackwards 39 = .ok (.iload 5, 2) := by decide +kernel
theorem dX6_goBackwards_41 : decode cX6_goBackwards 41 = .ok (.isub, 1) := by decide +kernel
theorem dX6_goBackwards_42 : decode cX6_goBackwards 42 = .ok (.istore 6, 2) := by decide +kernel
theorem dX6_goBackwards_44 : decode cX6_goBackwards 44 = .ok (.iload_n 2, 1) := by decide +kernel
theorem dX6_goBackwards_45 : decode cX6_goBackwards 45 = .ok (.iload 6, 2) := by decide +kernel
theorem dX6_goBackwards_47 : decode cX6_goBackwards 47 = .ok (.if_icmp .gt 6, 3) := by decide +kernel
theorem dX6_goBackwards_50 : decode cX6_goBackwards 50 = .ok (.goto 37, 3) := by decide +kernel
theorem dX6_goBackwards_53 : decode cX6_goBackwards 53 = .ok (.iload_n 2, 1) := by decide +kernel
theorem dX6_goBackwards_54 : decode cX6_goBackwards 54 = .ok (.iload 6, 2) := by decide +kernel
theorem dX6_goBackwards_56 : decode cX6_goBackwards 56 = .ok (.isub, 1) := by decide +kernel
theorem dX6_goBackwards_57 : decode cX6_goBackwards 57 = .ok (.istore_n 2, 1) := by decide +kernel
theorem dX6_goBackwards_58 : decode cX6_goBackwards 58 = .ok (.aload_n 0, 1) := by decide +kernel
theorem dX6_goBackwards_59 : decode cX6_goBackwards 59 = .ok (.getfield 19, 3) := by decide +kernel
theorem dX6_goBackwards_62 : decode cX6_goBackwards 62 = .ok (.iload 5, 2) := by decide +kernel
theorem dX6_goBackwards_64 : decode cX6_goBackwards 64 = .ok (.putfield 142, 3) := by decide +kernel
theorem dX6_goBackwards_67 : decode cX6_goBackwards 67 = .ok (.aload_n 0, 1) := by decide +kernel
theorem dX6_goBackwards_68 : decode cX6_goBackwards 68 = .ok (.iload 5, 2) := by decide +kernel
theorem dX6_goBackwards_70 : decode cX6_goBackwards 70 = .ok (.invokevirtual 246, 3) := by decide +kernel
theorem dX6_goBackwards_73 : decode cX6_goBackwards 73 = .ok (.aload_n 0, 1) := by decide +kernel
theorem dX6_goBackwards_74 : decode cX6_goBackwards 74 = .ok (.getfield 19, 3) := by decide +kernel
theorem dX6_goBackwards_77 : decode cX6_goBackwards 77 = .ok (.getfield 142, 3) := by decide +kernel
theorem dX6_goBackwards_80 : decode cX6_goBackwards 80 = .ok (.istore_n 3, 1) := by decide +kernel
theorem dX6_goBackwards_81 : decode cX6_goBackwards 81 = .ok (.iinc 4 1, 3) := by decide +kernel
theorem dX6_goBackwards_84 : decode cX6_goBackwards 84 = .ok (.goto (-69), 3) := by decide +kernel
theorem dX6_goBackwards_87 : decode cX6_goBackwards 87 = .ok (.aload_n 0, 1) := by decide +kernel
theorem dX6_goBackwards_88 : decode cX6_goBackwards 88 = .ok (.getfield 19, 3) := by decide +kernel
theorem dX6_goBackwards_91 : decode cX6_goBackwards 91 = .ok (.dup, 1) := by decide +kernel
theorem dX6_goBackwards_92 : decode cX6_goBackwards 92 = .ok (.getfield 142, 3) := by decide +kernel
theorem dX6_goBackwards_95 : decode cX6_goBackwards 95 = .ok (.iload_n 2, 1) := by decide +kernel
theorem dX6_goBackwards_96 : decode cX6_goBackwards 96 = .ok (.isub, 1) := by decide +kernel
theorem dX6_goBackwards_97 : decode cX6_goBackwards 97 = .ok (.putfield 142, 3) := by decide +kernel
theorem dX6_goBackwards_100 : decode cX6_goBackwards 100 = .ok (.return_, 1) := by decide +kernel
set_option maxRecDepth 20000 in
theorem ggX6_undo_X6_reopenTurn : GoodIn wsX6_undo wsX6_reopenTurn := goodIn_r _ [6, 1, 7, 8, 9, 10, 11, 12, 13, 14, 15, 16, 17, 18, 19, 20, 21, 22, 23, 24, 25, 26, 27, 28, 29, 30, 31, 32, 33, 34, 35, 36, 37, 38, 39, 40, 41, 42, 43, 44, 45, 46, 47, 48, 49, 50, 51, 52, 53, 54, 55, 56, 57, 58, 59, 60, 61, 62, 63, 64, 65, 66, 67, 68, 69, 70, 71, 72, 73, 74, 75, 76, 77, 78, 79, 80, 81] (by decide +kernel) (by decide +kernel)
set_option maxRecDepth 20000 in
theorem gX6_undo_X6_reopenTurn : GoodIn wsX6_undo (wsV RX6 249 RX6 yX6_reopenTurn wsX6_reopenTurn) := goodIn_app (goodIn_of _ (by decide +kernel)) ggX6_undo_X6_reopenTurn
theorem dX6_undo_0 : decode cX6_undo 0 = .ok (.iload_n 1, 1) := by decide +kernel
theorem dX6_undo_1 : decode cX6_undo 1 = .ok (.sipush 1440, 3) := by decide +kernel
theorem dX6_undo_4 : decode cX6_undo 4 = .ok (.if_icmp .ne 11, 3) := by decide +kernel
theorem dX6_undo_7 : decode cX6_undo 7 = .ok (.aload_n 0, 1) := by decide +kernel
theorem dX6_undo_8 : decode cX6_undo 8 = .ok (.iconst 0, 1) := by decide +kernel
theorem dX6_undo_9 : decode cX6_undo 9 = .ok (.putfield 55, 3) := by decide +kernel
theorem dX6_undo_12 : decode cX6_undo 12 = .ok (.goto 11, 3) := by decide +kernel
theorem dX6_undo_15 : decode cX6_undo 15 = .ok (.iload_n 1, 1) := by decide +kernel
theorem dX6_undo_16 : decode cX6_undo 16 = .ok (.ifCond .ne 7, 3) := by decide +kernel
theorem dX6_undo_19 : decode cX6_undo 19 = .ok (.aload_n 0, 1) := by decide +kernel
theorem dX6_undo_20 : decode cX6_undo 20 = .ok (.invokevirtual 249, 3) := by decide +kernel
theorem dX6_undo_23 : decode cX6_undo 23 = .ok (.return_, 1) := by decide +kernel
set_option maxRecDepth 20000 in
theorem ggX6_reopenTurn_X0_takeOff : GoodIn wsX6_reopenTurn wsX0_takeOff := goodIn_r _ [10, 11, 12, 13, 14, 15, 16, 17, 18, 9, 19, 20, 21, 22, 23, 24, 25, 26, 59, 60, 61, 62, 63, 64, 65] (by decide +kernel) (by decide +kernel)
set_option maxRecDepth 20000 in
theorem gX6_reopenTurn_X0_takeOff : GoodIn wsX6_reopenTurn (wsV RX6 252 RX0 yX0_takeOff wsX0_takeOff) := goodIn_app (goodIn_of _ (by decide +kernel)) ggX6_reopenTurn_X0_takeOff
set_option maxRecDepth 20000 in
theorem ggX6_reopenTurn_X1_before : GoodIn wsX6_reopenTurn wsX1_before := goodIn_r _ [31, 32, 33, 34, 35, 36, 37, 38, 39, 30, 40, 66, 67, 68, 69, 70, 71, 72, 73, 74, 75, 76] (by decide +kernel) (by decide +kernel)
set_option maxRecDepth 20000 in
theorem gX6_reopenTurn_X1_before : GoodIn wsX6_reopenTurn (wsV RX6 255 RX1 yX1_before wsX1_before) := goodIn_app (goodIn_of _ (by decide +kernel)) ggX6_reopenTurn_X1_before
theorem dX6_reopenTurn_0 : decode cX6_reopenTurn 0 = .ok (.aload_n 0, 1) := by decide +kernel
theorem dX6_reopenTurn_1 : decode cX6_reopenTurn 1 = .ok (.iconst 0, 1) := by decide +kernel
theorem dX6_reopenTurn_2 : decode cX6_reopenTurn 2 = .ok (.putfield 55, 3) := by decide +kernel
theorem dX6_reopenTurn_5 : decode cX6_reopenTurn 5 = .ok (.aload_n 0, 1) := by decide +kernel
theorem dX6_reopenTurn_6 : decode cX6_reopenTurn 6 = .ok (.getfield 26, 3) := by decide +kernel
theorem dX6_reopenTurn_9 : decode cX6_reopenTurn 9 = .ok (.invokevirtual 252, 3) := by decide +kernel
theorem dX6_reopenTurn_12 : decode cX6_reopenTurn 12 = .ok (.ifCond .eq 23, 3) := by decide +kernel
theorem dX6_reopenTurn_15 : decode cX6_reopenTurn 15 = .ok (.aload_n 0, 1) := by decide +kernel
theorem dX6_reopenTurn_16 : decode cX6_reopenTurn 16 = .ok (.iconst 1, 1) := by decide +kernel
theorem dX6_reopenTurn_17 : decode cX6_reopenTurn 17 = .ok (.putfield 55, 3) := by decide +kernel
theorem dX6_reopenTurn_20 : decode cX6_reopenTurn 20 = .ok (.aload_n 0, 1) := by decide +kernel
theorem dX6_reopenTurn_21 : decode cX6_reopenTurn 21 = .ok (.aload_n 0, 1) := by decide +kernel
theorem dX6_reopenTurn_22 : decode cX6_reopenTurn 22 = .ok (.getfield 40, 3) := by decide +kernel
theorem dX6_reopenTurn_25 : decode cX6_reopenTurn 25 = .ok (.aload_n 0, 1) := by decide +kernel
theorem dX6_reopenTurn_26 : decode cX6_reopenTurn 26 = .ok (.getfield 44, 3) := by decide +kernel
theorem dX6_reopenTurn_29 : decode cX6_reopenTurn 29 = .ok (.invokevirtual 255, 3) := by decide +kernel
theorem dX6_reopenTurn_32 : decode cX6_reopenTurn 32 = .ok (.putfield 44, 3) := by decide +kernel
theorem dX6_reopenTurn_35 : decode cX6_reopenTurn 35 = .ok (.aload_n 0, 1) := by decide +kernel
theorem dX6_reopenTurn_36 : decode cX6_reopenTurn 36 = .ok (.getfield 19, 3) := by decide +kernel
theorem dX6_reopenTurn_39 : decode cX6_reopenTurn 39 = .ok (.sipush 5760, 3) := by decide +kernel
theorem dX6_reopenTurn_42 : decode cX6_reopenTurn 42 = .ok (.putfield 142, 3) := by decide +kernel
theorem dX6_reopenTurn_45 : decode cX6_reopenTurn 45 = .ok (.aload_n 0, 1) := by decide +kernel
theorem dX6_reopenTurn_46 : decode cX6_reopenTurn 46 = .ok (.getfield 19, 3) := by decide +kernel
theorem dX6_reopenTurn_49 : decode cX6_reopenTurn 49 = .ok (.dup, 1) := by decide +kernel
theorem dX6_reopenTurn_50 : decode cX6_reopenTurn 50 = .ok (.getfield 203, 3) := by decide +kernel
theorem dX6_reopenTurn_53 : decode cX6_reopenTurn 53 = .ok (.lconst 1, 1) := by decide +kernel
theorem dX6_reopenTurn_54 : decode cX6_reopenTurn 54 = .ok (.lsub, 1) := by decide +kernel
theorem dX6_reopenTurn_55 : decode cX6_reopenTurn 55 = .ok (.putfield 203, 3) := by decide +kernel
theorem dX6_reopenTurn_58 : decode cX6_reopenTurn 58 = .ok (.return_, 1) := by decide +kernel
set_option maxRecDepth 20000 in
theorem ggX6_recall_X3_newest : GoodIn wsX6_recall wsX3_newest := goodIn_r _ [8, 9, 10, 11, 12, 13, 7, 14, 52, 53, 54] (by decide +kernel) (by decide +kernel)
set_option maxRecDepth 20000 in
theorem gX6_recall_X3_newest : GoodIn wsX6_recall (wsV RX6 258 RX3 yX3_newest wsX3_newest) := goodIn_app (goodIn_of _ (by decide +kernel)) ggX6_recall_X3_newest
set_option maxRecDepth 20000 in
theorem ggX6_recall_X3_placeOf : GoodIn wsX6_recall wsX3_placeOf := goodIn_r _ [18, 19, 52, 53, 54] (by decide +kernel) (by decide +kernel)
set_option maxRecDepth 20000 in
theorem gX6_recall_X3_placeOf : GoodIn wsX6_recall (wsV RX6 261 RX3 yX3_placeOf wsX3_placeOf) := goodIn_app (goodIn_of _ (by decide +kernel)) ggX6_recall_X3_placeOf
set_option maxRecDepth 20000 in
theorem ggX6_recall_X3_markOf : GoodIn wsX6_recall wsX3_markOf := goodIn_r _ [23, 9, 52, 53, 54] (by decide +kernel) (by decide +kernel)
set_option maxRecDepth 20000 in
theorem gX6_recall_X3_markOf : GoodIn wsX6_recall (wsV RX6 265 RX3 yX3_markOf wsX3_markOf) := goodIn_app (goodIn_of _ (by decide +kernel)) ggX6_recall_X3_markOf
set_option maxRecDepth 20000 in
theorem ggX6_recall_X1_behind : GoodIn wsX6_recall wsX1_behind := goodIn_r _ [28, 29, 30, 31, 27, 32, 33, 55, 56, 57, 58, 59, 60, 61, 62, 63, 64, 65] (by decide +kernel) (by decide +kernel)
set_option maxRecDepth 20000 in
theorem gX6_recall_X1_behind : GoodIn wsX6_recall (wsV RX6 239 RX1 yX1_behind wsX1_behind) := goodIn_app (goodIn_of _ (by decide +kernel)) ggX6_recall_X1_behind
theorem dX6_recall_0 : decode cX6_recall 0 = .ok (.aload_n 0, 1) := by decide +kernel
theorem dX6_recall_1 : decode cX6_recall 1 = .ok (.getfield 33, 3) := by decide +kernel
theorem dX6_recall_4 : decode cX6_recall 4 = .ok (.invokevirtual 258, 3) := by decide +kernel
theorem dX6_recall_7 : decode cX6_recall 7 = .ok (.istore_n 1, 1) := by decide +kernel
theorem dX6_recall_8 : decode cX6_recall 8 = .ok (.iload_n 1, 1) := by decide +kernel
theorem dX6_recall_9 : decode cX6_recall 9 = .ok (.iconst (-1), 1) := by decide +kernel
theorem dX6_recall_10 : decode cX6_recall 10 = .ok (.if_icmp .ne 5, 3) := by decide +kernel
theorem dX6_recall_13 : decode cX6_recall 13 = .ok (.lconst 0, 1) := by decide +kernel
theorem dX6_recall_14 : decode cX6_recall 14 = .ok (.lreturn, 1) := by decide +kernel
theorem dX6_recall_15 : decode cX6_recall 15 = .ok (.aload_n 0, 1) := by decide +kernel
theorem dX6_recall_16 : decode cX6_recall 16 = .ok (.getfield 33, 3) := by decide +kernel
theorem dX6_recall_19 : decode cX6_recall 19 = .ok (.iload_n 1, 1) := by decide +kernel
theorem dX6_recall_20 : decode cX6_recall 20 = .ok (.invokevirtual 261, 3) := by decide +kernel
theorem dX6_recall_23 : decode cX6_recall 23 = .ok (.lstore_n 2, 1) := by decide +kernel
theorem dX6_recall_24 : decode cX6_recall 24 = .ok (.aload_n 0, 1) := by decide +kernel
theorem dX6_recall_25 : decode cX6_recall 25 = .ok (.getfield 33, 3) := by decide +kernel
theorem dX6_recall_28 : decode cX6_recall 28 = .ok (.iload_n 1, 1) := by decide +kernel
theorem dX6_recall_29 : decode cX6_recall 29 = .ok (.invokevirtual 265, 3) := by decide +kernel
theorem dX6_recall_32 : decode cX6_recall 32 = .ok (.sipush 300, 3) := by decide +kernel
theorem dX6_recall_35 : decode cX6_recall 35 = .ok (.if_icmp .ne 20, 3) := by decide +kernel
theorem dX6_recall_38 : decode cX6_recall 38 = .ok (.aload_n 0, 1) := by decide +kernel
theorem dX6_recall_39 : decode cX6_recall 39 = .ok (.getfield 19, 3) := by decide +kernel
theorem dX6_recall_42 : decode cX6_recall 42 = .ok (.getfield 142, 3) := by decide +kernel
theorem dX6_recall_45 : decode cX6_recall 45 = .ok (.sipush 4800, 3) := by decide +kernel
theorem dX6_recall_48 : decode cX6_recall 48 = .ok (.if_icmp .ge 7, 3) := by decide +kernel
theorem dX6_recall_51 : decode cX6_recall 51 = .ok (.iconst 1, 1) := by decide +kernel
theorem dX6_recall_52 : decode cX6_recall 52 = .ok (.goto 4, 3) := by decide +kernel
theorem dX6_recall_55 : decode cX6_recall 55 = .ok (.iconst 0, 1) := by decide +kernel
theorem dX6_recall_56 : decode cX6_recall 56 = .ok (.istore 4, 2) := by decide +kernel
theorem dX6_recall_58 : decode cX6_recall 58 = .ok (.iload 4, 2) := by decide +kernel
theorem dX6_recall_60 : decode cX6_recall 60 = .ok (.ifCond .eq 14, 3) := by decide +kernel
theorem dX6_recall_63 : decode cX6_recall 63 = .ok (.aload_n 0, 1) := by decide +kernel
theorem dX6_recall_64 : decode cX6_recall 64 = .ok (.getfield 40, 3) := by decide +kernel
theorem dX6_recall_67 : decode cX6_recall 67 = .ok (.lload_n 2, 1) := by decide +kernel
theorem dX6_recall_68 : decode cX6_recall 68 = .ok (.invokevirtual 239, 3) := by decide +kernel
theorem dX6_recall_71 : decode cX6_recall 71 = .ok (.goto 4, 3) := by decide +kernel
theorem dX6_recall_74 : decode cX6_recall 74 = .ok (.lload_n 2, 1) := by decide +kernel
theorem dX6_recall_75 : decode cX6_recall 75 = .ok (.lreturn, 1) := by decide +kernel
