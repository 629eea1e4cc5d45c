theorem dX0_init_0 : decode cX0_init 0 = .ok (.aload_n 0, 1) := by decide +kernel
theorem dX0_init_1 : decode cX0_init 1 = .ok (.invokespecial 3, 3) := by decide +kernel
theorem dX0_init_4 : decode cX0_init 4 = .ok (.aload_n 0, 1) := by decide +kernel
theorem dX0_init_5 : decode cX0_init 5 = .ok (.bipush 64, 2) := by decide +kernel
theorem dX0_init_7 : decode cX0_init 7 = .ok (.newarray .int, 2) := by decide +kernel
theorem dX0_init_9 : decode cX0_init 9 = .ok (.putfield 11, 3) := by decide +kernel
theorem dX0_init_12 : decode cX0_init 12 = .ok (.aload_n 0, 1) := by decide +kernel
theorem dX0_init_13 : decode cX0_init 13 = .ok (.bipush 64, 2) := by decide +kernel
theorem dX0_init_15 : decode cX0_init 15 = .ok (.newarray .int, 2) := by decide +kernel
theorem dX0_init_17 : decode cX0_init 17 = .ok (.putfield 15, 3) := by decide +kernel
theorem dX0_init_20 : decode cX0_init 20 = .ok (.aload_n 0, 1) := by decide +kernel
theorem dX0_init_21 : decode cX0_init 21 = .ok (.bipush 64, 2) := by decide +kernel
theorem dX0_init_23 : decode cX0_init 23 = .ok (.newarray .int, 2) := by decide +kernel
theorem dX0_init_25 : decode cX0_init 25 = .ok (.putfield 18, 3) := by decide +kernel
theorem dX0_init_28 : decode cX0_init 28 = .ok (.aload_n 0, 1) := by decide +kernel
theorem dX0_init_29 : decode cX0_init 29 = .ok (.iconst 0, 1) := by decide +kernel
theorem dX0_init_30 : decode cX0_init 30 = .ok (.putfield 21, 3) := by decide +kernel
theorem dX0_init_33 : decode cX0_init 33 = .ok (.aload_n 0, 1) := by decide +kernel
theorem dX0_init_34 : decode cX0_init 34 = .ok (.iconst 0, 1) := by decide +kernel
theorem dX0_init_35 : decode cX0_init 35 = .ok (.putfield 25, 3) := by decide +kernel
theorem dX0_init_38 : decode cX0_init 38 = .ok (.aload_n 0, 1) := by decide +kernel
theorem dX0_init_39 : decode cX0_init 39 = .ok (.lconst 0, 1) := by decide +kernel
theorem dX0_init_40 : decode cX0_init 40 = .ok (.putfield 28, 3) := by decide +kernel
theorem dX0_init_43 : decode cX0_init 43 = .ok (.aload_n 0, 1) := by decide +kernel
theorem dX0_init_44 : decode cX0_init 44 = .ok (.lconst 0, 1) := by decide +kernel
theorem dX0_init_45 : decode cX0_init 45 = .ok (.putfield 32, 3) := by decide +kernel
theorem dX0_init_48 : decode cX0_init 48 = .ok (.return_, 1) := by decide +kernel
set_option maxRecDepth 20000 in
theorem ggX0_beatUp_J9_floorMod_7cf53 : GoodIn wsX0_beatUp wsJ9_floorMod_7cf53 := goodIn_r _ [15] (by decide +kernel) (by decide +kernel)
set_option maxRecDepth 20000 in
theorem gX0_beatUp_J9_floorMod_7cf53 : GoodIn wsX0_beatUp (va_wsS RX0 35 yJ9_floorMod_7cf53 wsJ9_floorMod_7cf53) := goodIn_app (goodIn_of _ (by decide +kernel)) ggX0_beatUp_J9_floorMod_7cf53
set_option maxRecDepth 20000 in
theorem ggX0_beatUp_X0_quarters : GoodIn wsX0_beatUp wsX0_quarters := goodIn_r _ [19] (by decide +kernel) (by decide +kernel)
set_option maxRecDepth 20000 in
theorem gX0_beatUp_X0_quarters : GoodIn wsX0_beatUp (va_wsS RX0 44 yX0_quarters wsX0_quarters) := goodIn_app (goodIn_of _ (by decide +kernel)) ggX0_beatUp_X0_quarters
theorem dX0_beatUp_0 : decode cX0_beatUp 0 = .ok (.aload_n 0, 1) := by decide +kernel
theorem dX0_beatUp_1 : decode cX0_beatUp 1 = .ok (.getfield 21, 3) := by decide +kernel
theorem dX0_beatUp_4 : decode cX0_beatUp 4 = .ok (.bipush 64, 2) := by decide +kernel
theorem dX0_beatUp_6 : decode cX0_beatUp 6 = .ok (.invokestatic 35, 3) := by decide +kernel
theorem dX0_beatUp_9 : decode cX0_beatUp 9 = .ok (.istore 4, 2) := by decide +kernel
theorem dX0_beatUp_11 : decode cX0_beatUp 11 = .ok (.aload_n 0, 1) := by decide +kernel
theorem dX0_beatUp_12 : decode cX0_beatUp 12 = .ok (.getfield 11, 3) := by decide +kernel
theorem dX0_beatUp_15 : decode cX0_beatUp 15 = .ok (.iload 4, 2) := by decide +kernel
theorem dX0_beatUp_17 : decode cX0_beatUp 17 = .ok (.iload_n 1, 1) := by decide +kernel
theorem dX0_beatUp_18 : decode cX0_beatUp 18 = .ok (.iastore, 1) := by decide +kernel
theorem dX0_beatUp_19 : decode cX0_beatUp 19 = .ok (.aload_n 0, 1) := by decide +kernel
theorem dX0_beatUp_20 : decode cX0_beatUp 20 = .ok (.getfield 15, 3) := by decide +kernel
theorem dX0_beatUp_23 : decode cX0_beatUp 23 = .ok (.iload 4, 2) := by decide +kernel
theorem dX0_beatUp_25 : decode cX0_beatUp 25 = .ok (.iload_n 2, 1) := by decide +kernel
theorem dX0_beatUp_26 : decode cX0_beatUp 26 = .ok (.iastore, 1) := by decide +kernel
theorem dX0_beatUp_27 : decode cX0_beatUp 27 = .ok (.aload_n 0, 1) := by decide +kernel
theorem dX0_beatUp_28 : decode cX0_beatUp 28 = .ok (.getfield 18, 3) := by decide +kernel
theorem dX0_beatUp_31 : decode cX0_beatUp 31 = .ok (.iload 4, 2) := by decide +kernel
theorem dX0_beatUp_33 : decode cX0_beatUp 33 = .ok (.iload_n 3, 1) := by decide +kernel
theorem dX0_beatUp_34 : decode cX0_beatUp 34 = .ok (.iastore, 1) := by decide +kernel
theorem dX0_beatUp_35 : decode cX0_beatUp 35 = .ok (.aload_n 0, 1) := by decide +kernel
theorem dX0_beatUp_36 : decode cX0_beatUp 36 = .ok (.iload 4, 2) := by decide +kernel
theorem dX0_beatUp_38 : decode cX0_beatUp 38 = .ok (.iconst 1, 1) := by decide +kernel
theorem dX0_beatUp_39 : decode cX0_beatUp 39 = .ok (.iadd, 1) := by decide +kernel
theorem dX0_beatUp_40 : decode cX0_beatUp 40 = .ok (.bipush 64, 2) := by decide +kernel
theorem dX0_beatUp_42 : decode cX0_beatUp 42 = .ok (.invokestatic 35, 3) := by decide +kernel
theorem dX0_beatUp_45 : decode cX0_beatUp 45 = .ok (.putfield 21, 3) := by decide +kernel
theorem dX0_beatUp_48 : decode cX0_beatUp 48 = .ok (.aload_n 0, 1) := by decide +kernel
theorem dX0_beatUp_49 : decode cX0_beatUp 49 = .ok (.aload_n 0, 1) := by decide +kernel
theorem dX0_beatUp_50 : decode cX0_beatUp 50 = .ok (.getfield 25, 3) := by decide +kernel
theorem dX0_beatUp_53 : decode cX0_beatUp 53 = .ok (.iconst 1, 1) := by decide +kernel
theorem dX0_beatUp_54 : decode cX0_beatUp 54 = .ok (.iadd, 1) := by decide +kernel
theorem dX0_beatUp_55 : decode cX0_beatUp 55 = .ok (.bipush 64, 2) := by decide +kernel
theorem dX0_beatUp_57 : decode cX0_beatUp 57 = .ok (.invokestatic 41, 3) := by decide +kernel
theorem dX0_beatUp_60 : decode cX0_beatUp 60 = .ok (.putfield 25, 3) := by decide +kernel
theorem dX0_beatUp_63 : decode cX0_beatUp 63 = .ok (.aload_n 0, 1) := by decide +kernel
theorem dX0_beatUp_64 : decode cX0_beatUp 64 = .ok (.dup, 1) := by decide +kernel
theorem dX0_beatUp_65 : decode cX0_beatUp 65 = .ok (.getfield 28, 3) := by decide +kernel
theorem dX0_beatUp_68 : decode cX0_beatUp 68 = .ok (.lconst 1, 1) := by decide +kernel
theorem dX0_beatUp_69 : decode cX0_beatUp 69 = .ok (.ladd, 1) := by decide +kernel
theorem dX0_beatUp_70 : decode cX0_beatUp 70 = .ok (.putfield 28, 3) := by decide +kernel
theorem dX0_beatUp_73 : decode cX0_beatUp 73 = .ok (.aload_n 0, 1) := by decide +kernel
theorem dX0_beatUp_74 : decode cX0_beatUp 74 = .ok (.dup, 1) := by decide +kernel
theorem dX0_beatUp_75 : decode cX0_beatUp 75 = .ok (.getfield 32, 3) := by decide +kernel
theorem dX0_beatUp_78 : decode cX0_beatUp 78 = .ok (.iload_n 3, 1) := by decide +kernel
theorem dX0_beatUp_79 : decode cX0_beatUp 79 = .ok (.invokestatic 44, 3) := by decide +kernel
theorem dX0_beatUp_82 : decode cX0_beatUp 82 = .ok (.i2l, 1) := by decide +kernel
theorem dX0_beatUp_83 : decode cX0_beatUp 83 = .ok (.ladd, 1) := by decide +kernel
theorem dX0_beatUp_84 : decode cX0_beatUp 84 = .ok (.putfield 32, 3) := by decide +kernel
theorem dX0_beatUp_87 : decode cX0_beatUp 87 = .ok (.return_, 1) := by decide +kernel
set_option maxRecDepth 20000 in
theorem ggX0_takeOff_X0_slotOf : GoodIn wsX0_takeOff wsX0_slotOf := goodIn_r _ [10, 2, 11, 12, 13, 14, 18, 19, 20, 21, 22, 23, 24] (by decide +kernel) (by decide +kernel)
set_option maxRecDepth 20000 in
theorem gX0_takeOff_X0_slotOf : GoodIn wsX0_takeOff (wsV RX0 48 RX0 yX0_slotOf wsX0_slotOf) := goodIn_app (goodIn_of _ (by decide +kernel)) ggX0_takeOff_X0_slotOf
set_option maxRecDepth 20000 in
theorem ggX0_takeOff_X0_quarters : GoodIn wsX0_takeOff wsX0_quarters := goodIn_r _ [17] (by decide +kernel) (by decide +kernel)
set_option maxRecDepth 20000 in
theorem gX0_takeOff_X0_quarters : GoodIn wsX0_takeOff (va_wsS RX0 44 yX0_quarters wsX0_quarters) := goodIn_app (goodIn_of _ (by decide +kernel)) ggX0_takeOff_X0_quarters
theorem dX0_takeOff_0 : decode cX0_takeOff 0 = .ok (.aload_n 0, 1) := by decide +kernel
theorem dX0_takeOff_1 : decode cX0_takeOff 1 = .ok (.getfield 25, 3) := by decide +kernel
theorem dX0_takeOff_4 : decode cX0_takeOff 4 = .ok (.ifCond .gt 5, 3) := by decide +kernel
theorem dX0_takeOff_7 : decode cX0_takeOff 7 = .ok (.iconst 0, 1) := by decide +kernel
theorem dX0_takeOff_8 : decode cX0_takeOff 8 = .ok (.ireturn, 1) := by decide +kernel
theorem dX0_takeOff_9 : decode cX0_takeOff 9 = .ok (.aload_n 0, 1) := by decide +kernel
theorem dX0_takeOff_10 : decode cX0_takeOff 10 = .ok (.aload_n 0, 1) := by decide +kernel
theorem dX0_takeOff_11 : decode cX0_takeOff 11 = .ok (.iconst 0, 1) := by decide +kernel
theorem dX0_takeOff_12 : decode cX0_takeOff 12 = .ok (.invokevirtual 48, 3) := by decide +kernel
theorem dX0_takeOff_15 : decode cX0_takeOff 15 = .ok (.putfield 21, 3) := by decide +kernel
theorem dX0_takeOff_18 : decode cX0_takeOff 18 = .ok (.aload_n 0, 1) := by decide +kernel
theorem dX0_takeOff_19 : decode cX0_takeOff 19 = .ok (.dup, 1) := by decide +kernel
theorem dX0_takeOff_20 : decode cX0_takeOff 20 = .ok (.getfield 25, 3) := by decide +kernel
theorem dX0_takeOff_23 : decode cX0_takeOff 23 = .ok (.iconst 1, 1) := by decide +kernel
theorem dX0_takeOff_24 : decode cX0_takeOff 24 = .ok (.isub, 1) := by decide +kernel
theorem dX0_takeOff_25 : decode cX0_takeOff 25 = .ok (.putfield 25, 3) := by decide +kernel
theorem dX0_takeOff_28 : decode cX0_takeOff 28 = .ok (.aload_n 0, 1) := by decide +kernel
theorem dX0_takeOff_29 : decode cX0_takeOff 29 = .ok (.dup, 1) := by decide +kernel
theorem dX0_takeOff_30 : decode cX0_takeOff 30 = .ok (.getfield 28, 3) := by decide +kernel
theorem dX0_takeOff_33 : decode cX0_takeOff 33 = .ok (.lconst 1, 1) := by decide +kernel
theorem dX0_takeOff_34 : decode cX0_takeOff 34 = .ok (.lsub, 1) := by decide +kernel
theorem dX0_takeOff_35 : decode cX0_takeOff 35 = .ok (.putfield 28, 3) := by decide +kernel
theorem dX0_takeOff_38 : decode cX0_takeOff 38 = .ok (.aload_n 0, 1) := by decide +kernel
theorem dX0_takeOff_39 : decode cX0_takeOff 39 = .ok (.dup, 1) := by decide +kernel
theorem dX0_takeOff_40 : decode cX0_takeOff 40 = .ok (.getfield 32, 3) := by decide +kernel
theorem dX0_takeOff_43 : decode cX0_takeOff 43 = .ok (.aload_n 0, 1) := by decide +kernel
theorem dX0_takeOff_44 : decode cX0_takeOff 44 = .ok (.getfield 18, 3) := by decide +kernel
theorem dX0_takeOff_47 : decode cX0_takeOff 47 = .ok (.aload_n 0, 1) := by decide +kernel
theorem dX0_takeOff_48 : decode cX0_takeOff 48 = .ok (.getfield 21, 3) := by decide +kernel
theorem dX0_takeOff_51 : decode cX0_takeOff 51 = .ok (.iaload, 1) := by decide +kernel
theorem dX0_takeOff_52 : decode cX0_takeOff 52 = .ok (.invokestatic 44, 3) := by decide +kernel
theorem dX0_takeOff_55 : decode cX0_takeOff 55 = .ok (.i2l, 1) := by decide +kernel
theorem dX0_takeOff_56 : decode cX0_takeOff 56 = .ok (.lsub, 1) := by decide +kernel
theorem dX0_takeOff_57 : decode cX0_takeOff 57 = .ok (.putfield 32, 3) := by decide +kernel
theorem dX0_takeOff_60 : decode cX0_takeOff 60 = .ok (.iconst 1, 1) := by decide +kernel
theorem dX0_takeOff_61 : decode cX0_takeOff 61 = .ok (.ireturn, 1) := by decide +kernel
theorem dX0_forget_0 : decode cX0_forget 0 = .ok (.aload_n 0, 1) := by decide +kernel
theorem dX0_forget_1 : decode cX0_forget 1 = .ok (.iconst 0, 1) := by decide +kernel
theorem dX0_forget_2 : decode cX0_forget 2 = .ok (.putfield 25, 3) := by decide +kernel
theorem dX0_forget_5 : decode cX0_forget 5 = .ok (.return_, 1) := by decide +kernel
set_option maxRecDepth 20000 in
theorem ggX0_tell_X0_slotOf : GoodIn wsX0_tell wsX0_slotOf := goodIn_r _ [9, 10, 11, 12, 13, 14, 15, 16, 17, 18, 19, 20, 21] (by decide +kernel) (by decide +kernel)
set_option maxRecDepth 20000 in
theorem gX0_tell_X0_slotOf : GoodIn wsX0_tell (wsV RX0 48 RX0 yX0_slotOf wsX0_slotOf) := goodIn_app (goodIn_of _ (by decide +kernel)) ggX0_tell_X0_slotOf
theorem dX0_tell_0 : decode cX0_tell 0 = .ok (.iload_n 1, 1) := by decide +kernel
theorem dX0_tell_1 : decode cX0_tell 1 = .ok (.ifCond .lt 11, 3) := by decide +kernel
theorem dX0_tell_4 : decode cX0_tell 4 = .ok (.iload_n 1, 1) := by decide +kernel
theorem dX0_tell_5 : decode cX0_tell 5 = .ok (.aload_n 0, 1) := by decide +kernel
theorem dX0_tell_6 : decode cX0_tell 6 = .ok (.getfield 25, 3) := by decide +kernel
theorem dX0_tell_9 : decode cX0_tell 9 = .ok (.if_icmp .lt 5, 3) := by decide +kernel
theorem dX0_tell_12 : decode cX0_tell 12 = .ok (.iconst (-1), 1) := by decide +kernel
theorem dX0_tell_13 : decode cX0_tell 13 = .ok (.ireturn, 1) := by decide +kernel
theorem dX0_tell_14 : decode cX0_tell 14 = .ok (.aload_n 0, 1) := by decide +kernel
theorem dX0_tell_15 : decode cX0_tell 15 = .ok (.iload_n 1, 1) := by decide +kernel
theorem dX0_tell_16 : decode cX0_tell 16 = .ok (.invokevirtual 48, 3) := by decide +kernel
theorem dX0_tell_19 : decode cX0_tell 19 = .ok (.istore_n 3, 1) := by decide +kernel
theorem dX0_tell_20 : decode cX0_tell 20 = .ok (.iload_n 2, 1) := by decide +kernel
theorem dX0_tell_21 : decode cX0_tell 21 = .ok (.tableswitch 48 0 2 #[27, 34, 41], 27) := by decide +kernel
theorem dX0_tell_48 : decode cX0_tell 48 = .ok (.aload_n 0, 1) := by decide +kernel
theorem dX0_tell_49 : decode cX0_tell 49 = .ok (.getfield 11, 3) := by decide +kernel
theorem dX0_tell_52 : decode cX0_tell 52 = .ok (.iload_n 3, 1) := by decide +kernel
theorem dX0_tell_53 : decode cX0_tell 53 = .ok (.iaload, 1) := by decide +kernel
theorem dX0_tell_54 : decode cX0_tell 54 = .ok (.ireturn, 1) := by decide +kernel
theorem dX0_tell_55 : decode cX0_tell 55 = .ok (.aload_n 0, 1) := by decide +kernel
theorem dX0_tell_56 : decode cX0_tell 56 = .ok (.getfield 15, 3) := by decide +kernel
theorem dX0_tell_59 : decode cX0_tell 59 = .ok (.iload_n 3, 1) := by decide +kernel
theorem dX0_tell_60 : decode cX0_tell 60 = .ok (.iaload, 1) := by decide +kernel
theorem dX0_tell_61 : decode cX0_tell 61 = .ok (.ireturn, 1) := by decide +kernel
theorem dX0_tell_62 : decode cX0_tell 62 = .ok (.aload_n 0, 1) := by decide +kernel
theorem dX0_tell_63 : decode cX0_tell 63 = .ok (.getfield 18, 3) := by decide +kernel
theorem dX0_tell_66 : decode cX0_tell 66 = .ok (.iload_n 3, 1) := by decide +kernel
theorem dX0_tell_67 : decode cX0_tell 67 = .ok (.iaload, 1) := by decide +kernel
theorem dX0_tell_68 : decode cX0_tell 68 = .ok (.ireturn, 1) := by decide +kernel
theorem dX0_tell_69 : decode cX0_tell 69 = .ok (.iconst (-1), 1) := by decide +kernel
theorem dX0_tell_70 : decode cX0_tell 70 = .ok (.ireturn, 1) := by decide +kernel
set_option maxRecDepth 20000 in
theorem ggX0_slotOf_J9_floorMod_7cf53 : GoodIn wsX0_slotOf wsJ9_floorMod_7cf53 := goodIn_r _ [5] (by decide +kernel) (by decide +kernel)
set_option maxRecDepth 20000 in
theorem gX0_slotOf_J9_floorMod_7cf53 : GoodIn wsX0_slotOf (va_wsS RX0 35 yJ9_floorMod_7cf53 wsJ9_floorMod_7cf53) := goodIn_app (goodIn_of _ (by decide +kernel)) ggX0_slotOf_J9_floorMod_7cf53
theorem dX0_slotOf_0 : decode cX0_slotOf 0 = .ok (.aload_n 0, 1) := by decide +kernel
theorem dX0_slotOf_1 : decode cX0_slotOf 1 = .ok (.getfield 21, 3) := by decide +kernel
theorem dX0_slotOf_4 : decode cX0_slotOf 4 = .ok (.iconst 1, 1) := by decide +kernel
theorem dX0_slotOf_5 : decode cX0_slotOf 5 = .ok (.isub, 1) := by decide +kernel
theorem dX0_slotOf_6 : decode cX0_slotOf 6 = .ok (.iload_n 1, 1) := by decide +kernel
theorem dX0_slotOf_7 : decode cX0_slotOf 7 = .ok (.isub, 1) := by decide +kernel
theorem dX0_slotOf_8 : decode cX0_slotOf 8 = .ok (.bipush 64, 2) := by decide +kernel
theorem dX0_slotOf_10 : decode cX0_slotOf 10 = .ok (.invokestatic 35, 3) := by decide +kernel
theorem dX0_slotOf_13 : decode cX0_slotOf 13 = .ok (.ireturn, 1) := by decide +kernel
theorem dX0_quarters_0 : decode cX0_quarters 0 = .ok (.iload_n 0, 1) := by decide +kernel
theorem dX0_quarters_1 : decode cX0_quarters 1 = .ok (.ifCond .le 11, 3) := by decide +kernel
theorem dX0_quarters_4 : decode cX0_quarters 4 = .ok (.sipush 4000, 3) := by decide +kernel
theorem dX0_quarters_7 : decode cX0_quarters 7 = .ok (.iload_n 0, 1) := by decide +kernel
theorem dX0_quarters_8 : decode cX0_quarters 8 = .ok (.idiv, 1) := by decide +kernel
theorem dX0_quarters_9 : decode cX0_quarters 9 = .ok (.goto 4, 3) := by decide +kernel
theorem dX0_quarters_12 : decode cX0_quarters 12 = .ok (.iconst 0, 1) := by decide +kernel
theorem dX0_quarters_13 : decode cX0_quarters 13 = .ok (.ireturn, 1) := by decide +kernel
theorem dX1_init_0 : decode cX1_init 0 = .ok (.aload_n 0, 1) := by decide +kernel
theorem dX1_init_1 : decode cX1_init 1 = .ok (.invokespecial 5, 3) := by decide +kernel
theorem dX1_init_4 : decode cX1_init 4 = .ok (.aload_n 0, 1) := by decide +kernel
theorem dX1_init_5 : decode cX1_init 5 = .ok (.bipush 80, 2) := by decide +kernel
theorem dX1_init_7 : decode cX1_init 7 = .ok (.newarray .int, 2) := by decide +kernel
theorem dX1_init_9 : decode cX1_init 9 = .ok (.putfield 13, 3) := by decide +kernel
theorem dX1_init_12 : decode cX1_init 12 = .ok (.aload_n 0, 1) := by decide +kernel
theorem dX1_init_13 : decode cX1_init 13 = .ok (.bipush 80, 2) := by decide +kernel
theorem dX1_init_15 : decode cX1_init 15 = .ok (.newarray .int, 2) := by decide +kernel
theorem dX1_init_17 : decode cX1_init 17 = .ok (.putfield 17, 3) := by decide +kernel
theorem dX1_init_20 : decode cX1_init 20 = .ok (.aload_n 0, 1) := by decide +kernel
theorem dX1_init_21 : decode cX1_init 21 = .ok (.bipush 80, 2) := by decide +kernel
theorem dX1_init_23 : decode cX1_init 23 = .ok (.newarray .int, 2) := by decide +kernel
theorem dX1_init_25 : decode cX1_init 25 = .ok (.putfield 20, 3) := by decide +kernel
theorem dX1_init_28 : decode cX1_init 28 = .ok (.aload_n 0, 1) := by decide +kernel
theorem dX1_init_29 : decode cX1_init 29 = .ok (.bipush 80, 2) := by decide +kernel
theorem dX1_init_31 : decode cX1_init 31 = .ok (.newarray .long, 2) := by decide +kernel
theorem dX1_init_33 : decode cX1_init 33 = .ok (.putfield 23, 3) := by decide +kernel
theorem dX1_init_36 : decode cX1_init 36 = .ok (.aload_n 0, 1) := by decide +kernel
theorem dX1_init_37 : decode cX1_init 37 = .ok (.bipush 80, 2) := by decide +kernel
theorem dX1_init_39 : decode cX1_init 39 = .ok (.newarray .int, 2) := by decide +kernel
theorem dX1_init_41 : decode cX1_init 41 = .ok (.putfield 27, 3) := by decide +kernel
theorem dX1_init_44 : decode cX1_init 44 = .ok (.aload_n 0, 1) := by decide +kernel
theorem dX1_init_45 : decode cX1_init 45 = .ok (.bipush 80, 2) := by decide +kernel
theorem dX1_init_47 : decode cX1_init 47 = .ok (.newarray .int, 2) := by decide +kernel
theorem dX1_init_49 : decode cX1_init 49 = .ok (.putfield 30, 3) := by decide +kernel
theorem dX1_init_52 : decode cX1_init 52 = .ok (.aload_n 0, 1) := by decide +kernel
theorem dX1_init_53 : decode cX1_init 53 = .ok (.iconst 0, 1) := by decide +kernel
theorem dX1_init_54 : decode cX1_init 54 = .ok (.putfield 33, 3) := by decide +kernel
theorem dX1_init_57 : decode cX1_init 57 = .ok (.aload_n 0, 1) := by decide +kernel
theorem dX1_init_58 : decode cX1_init 58 = .ok (.lconst 0, 1) := by decide +kernel
theorem dX1_init_59 : decode cX1_init 59 = .ok (.putfield 37, 3) := by decide +kernel
theorem dX1_init_62 : decode cX1_init 62 = .ok (.aload_n 0, 1) := by decide +kernel
theorem dX1_init_63 : decode cX1_init 63 = .ok (.lconst 0, 1) := by decide +kernel
theorem dX1_init_64 : decode cX1_init 64 = .ok (.putfield 41, 3) := by decide +kernel
theorem dX1_init_67 : decode cX1_init 67 = .ok (.aload_n 0, 1) := by decide +kernel
theorem dX1_init_68 : decode cX1_init 68 = .ok (.iconst 0, 1) := by decide +kernel
theorem dX1_init_69 : decode cX1_init 69 = .ok (.putfield 44, 3) := by decide +kernel
theorem dX1_init_72 : decode cX1_init 72 = .ok (.aload_n 0, 1) := by decide +kernel
theorem dX1_init_73 : decode cX1_init 73 = .ok (.iconst 0, 1) := by decide +kernel
theorem dX1_init_74 : decode cX1_init 74 = .ok (.putfield 47, 3) := by decide +kernel
theorem dX1_init_77 : decode cX1_init 77 = .ok (.return_, 1) := by decide +kernel
theorem dX1_has_0 : decode cX1_has 0 = .ok (.lload_n 1, 1) := by decide +kernel
theorem dX1_has_1 : decode cX1_has 1 = .ok (.lconst 0, 1) := by decide +kernel
theorem dX1_has_2 : decode cX1_has 2 = .ok (.lcmp, 1) := by decide +kernel
theorem dX1_has_3 : decode cX1_has 3 = .ok (.ifCond .lt 16, 3) := by decide +kernel
theorem dX1_has_6 : decode cX1_has 6 = .ok (.lload_n 1, 1) := by decide +kernel
theorem dX1_has_7 : decode cX1_has 7 = .ok (.aload_n 0, 1) := by decide +kernel
theorem dX1_has_8 : decode cX1_has 8 = .ok (.getfield 37, 3) := by decide +kernel
theorem dX1_has_11 : decode cX1_has 11 = .ok (.lcmp, 1) := by decide +kernel
theorem dX1_has_12 : decode cX1_has 12 = .ok (.ifCond .ge 7, 3) := by decide +kernel
theorem dX1_has_15 : decode cX1_has 15 = .ok (.iconst 1, 1) := by decide +kernel
theorem dX1_has_16 : decode cX1_has 16 = .ok (.goto 4, 3) := by decide +kernel
theorem dX1_has_19 : decode cX1_has 19 = .ok (.iconst 0, 1) := by decide +kernel
theorem dX1_has_20 : decode cX1_has 20 = .ok (.ireturn, 1) := by decide +kernel
set_option maxRecDepth 20000 in
theorem ggX1_behind_X1_has : GoodIn wsX1_behind wsX1_has := goodIn_r _ [5, 6, 7, 8, 9, 10, 11, 12, 13, 14, 15, 16, 17] (by decide +kernel) (by decide +kernel)
set_option maxRecDepth 20000 in
theorem gX1_behind_X1_has : GoodIn wsX1_behind (wsV RX1 50 RX1 yX1_has wsX1_has) := goodIn_app (goodIn_of _ (by decide +kernel)) ggX1_behind_X1_has
theorem dX1_behind_0 : decode cX1_behind 0 = .ok (.aload_n 0, 1) := by decide +kernel
theorem dX1_behind_1 : decode cX1_behind 1 = .ok (.lload_n 1, 1) := by decide +kernel
theorem dX1_behind_2 : decode cX1_behind 2 = .ok (.lconst 1, 1) := by decide +kernel
theorem dX1_behind_3 : decode cX1_behind 3 = .ok (.ladd, 1) := by decide +kernel
theorem dX1_behind_4 : decode cX1_behind 4 = .ok (.invokevirtual 50, 3) := by decide +kernel
theorem dX1_behind_7 : decode cX1_behind 7 = .ok (.ifCond .eq 9, 3) := by decide +kernel
theorem dX1_behind_10 : decode cX1_behind 10 = .ok (.lload_n 1, 1) := by decide +kernel
theorem dX1_behind_11 : decode cX1_behind 11 = .ok (.lconst 1, 1) := by decide +kernel
theorem dX1_behind_12 : decode cX1_behind 12 = .ok (.ladd, 1) := by decide +kernel
theorem dX1_behind_13 : decode cX1_behind 13 = .ok (.goto 4, 3) := by decide +kernel
theorem dX1_behind_16 : decode cX1_behind 16 = .ok (.lconst 0, 1) := by decide +kernel
theorem dX1_behind_17 : decode cX1_behind 17 = .ok (.lreturn, 1) := by decide +kernel
set_option maxRecDepth 20000 in
theorem ggX1_before_X1_has : GoodIn wsX1_before wsX1_has := goodIn_r _ [10, 1, 11, 12, 13, 14, 15, 16, 17, 18, 19, 20, 21] (by decide +kernel) (by decide +kernel)
set_option maxRecDepth 20000 in
theorem gX1_before_X1_has : GoodIn wsX1_before (wsV RX1 50 RX1 yX1_has wsX1_has) := goodIn_app (goodIn_of _ (by decide +kernel)) ggX1_before_X1_has
theorem dX1_before_0 : decode cX1_before 0 = .ok (.aload_n 0, 1) := by decide +kernel
theorem dX1_before_1 : decode cX1_before 1 = .ok (.lload_n 1, 1) := by decide +kernel
theorem dX1_before_2 : decode cX1_before 2 = .ok (.lconst 1, 1) := by decide +kernel
theorem dX1_before_3 : decode cX1_before 3 = .ok (.lsub, 1) := by decide +kernel
theorem dX1_before_4 : decode cX1_before 4 = .ok (.invokevirtual 50, 3) := by decide +kernel
theorem dX1_before_7 : decode cX1_before 7 = .ok (.ifCond .eq 9, 3) := by decide +kernel
theorem dX1_before_10 : decode cX1_before 10 = .ok (.lload_n 1, 1) := by decide +kernel
theorem dX1_before_11 : decode cX1_before 11 = .ok (.lconst 1, 1) := by decide +kernel
theorem dX1_before_12 : decode cX1_before 12 = .ok (.lsub, 1) := by decide +kernel
theorem dX1_before_13 : decode cX1_before 13 = .ok (.goto 13, 3) := by decide +kernel
theorem dX1_before_16 : decode cX1_before 16 = .ok (.aload_n 0, 1) := by decide +kernel
theorem dX1_before_17 : decode cX1_before 17 = .ok (.getfield 37, 3) := by decide +kernel
theorem dX1_before_20 : decode cX1_before 20 = .ok (.lconst 1, 1) := by decide +kernel
theorem dX1_before_21 : decode cX1_before 21 = .ok (.lsub, 1) := by decide +kernel
theorem dX1_before_22 : decode cX1_before 22 = .ok (.lconst 0, 1) := by decide +kernel
theorem dX1_before_23 : decode cX1_before 23 = .ok (.invokestatic 54, 3) := by decide +kernel
theorem dX1_before_26 : decode cX1_before 26 = .ok (.lreturn, 1) := by decide +kernel
theorem dX1_clear_0 : decode cX1_clear 0 = .ok (.aload_n 0, 1) := by decide +kernel
theorem dX1_clear_1 : decode cX1_clear 1 = .ok (.iconst 0, 1) := by decide +kernel
theorem dX1_clear_2 : decode cX1_clear 2 = .ok (.putfield 33, 3) := by decide +kernel
theorem dX1_clear_5 : decode cX1_clear 5 = .ok (.aload_n 0, 1) := by decide +kernel
theorem dX1_clear_6 : decode cX1_clear 6 = .ok (.lconst 0, 1) := by decide +kernel
theorem dX1_clear_7 : decode cX1_clear 7 = .ok (.putfield 37, 3) := by decide +kernel
theorem dX1_clear_10 : decode cX1_clear 10 = .ok (.return_, 1) := by decide +kernel
theorem dX1_add_0 : decode cX1_add 0 = .ok (.aload_n 0, 1) := by decide +kernel
theorem dX1_add_1 : decode cX1_add 1 = .ok (.getfield 33, 3) := by decide +kernel
theorem dX1_add_4 : decode cX1_add 4 = .ok (.ifCond .lt 12, 3) := by decide +kernel
theorem dX1_add_7 : decode cX1_add 7 = .ok (.aload_n 0, 1) := by decide +kernel
theorem dX1_add_8 : decode cX1_add 8 = .ok (.getfield 33, 3) := by decide +kernel
theorem dX1_add_11 : decode cX1_add 11 = .ok (.bipush 80, 2) := by decide +kernel
theorem dX1_add_13 : decode cX1_add 13 = .ok (.if_icmp .lt 4, 3) := by decide +kernel
theorem dX1_add_16 : decode cX1_add 16 = .ok (.return_, 1) := by decide +kernel
theorem dX1_add_17 : decode cX1_add 17 = .ok (.aload_n 0, 1) := by decide +kernel
theorem dX1_add_18 : decode cX1_add 18 = .ok (.getfield 13, 3) := by decide +kernel
theorem dX1_add_21 : decode cX1_add 21 = .ok (.aload_n 0, 1) := by decide +kernel
theorem dX1_add_22 : decode cX1_add 22 = .ok (.getfield 33, 3) := by decide +kernel
theorem dX1_add_25 : decode cX1_add 25 = .ok (.iload_n 1, 1) := by decide +kernel
theorem dX1_add_26 : decode cX1_add 26 = .ok (.iastore, 1) := by decide +kernel
theorem dX1_add_27 : decode cX1_add 27 = .ok (.aload_n 0, 1) := by decide +kernel
theorem dX1_add_28 : decode cX1_add 28 = .ok (.getfield 17, 3) := by decide +kernel
theorem dX1_add_31 : decode cX1_add 31 = .ok (.aload_n 0, 1) := by decide +kernel
theorem dX1_add_32 : decode cX1_add 32 = .ok (.getfield 33, 3) := by decide +kernel
theorem dX1_add_35 : decode cX1_add 35 = .ok (.iload_n 2, 1) := by decide +kernel
theorem dX1_add_36 : decode cX1_add 36 = .ok (.iastore, 1) := by decide +kernel
theorem dX1_add_37 : decode cX1_add 37 = .ok (.aload_n 0, 1) := by decide +kernel
theorem dX1_add_38 : decode cX1_add 38 = .ok (.dup, 1) := by decide +kernel
theorem dX1_add_39 : decode cX1_add 39 = .ok (.getfield 33, 3) := by decide +kernel
theorem dX1_add_42 : decode cX1_add 42 = .ok (.iconst 1, 1) := by decide +kernel
theorem dX1_add_43 : decode cX1_add 43 = .ok (.iadd, 1) := by decide +kernel
theorem dX1_add_44 : decode cX1_add 44 = .ok (.putfield 33, 3) := by decide +kernel
theorem dX1_add_47 : decode cX1_add 47 = .ok (.return_, 1) := by decide +kernel
theorem dX1_end_0 : decode cX1_end 0 = .ok (.iload_n 1, 1) := by decide +kernel
theorem dX1_end_1 : decode cX1_end 1 = .ok (.ifCond .lt 11, 3) := by decide +kernel
theorem dX1_end_4 : decode cX1_end 4 = .ok (.iload_n 1, 1) := by decide +kernel
theorem dX1_end_5 : decode cX1_end 5 = .ok (.aload_n 0, 1) := by decide +kernel
theorem dX1_end_6 : decode cX1_end 6 = .ok (.getfield 33, 3) := by decide +kernel
theorem dX1_end_9 : decode cX1_end 9 = .ok (.if_icmp .lt 5, 3) := by decide +kernel
theorem dX1_end_12 : decode cX1_end 12 = .ok (.iconst 0, 1) := by decide +kernel
theorem dX1_end_13 : decode cX1_end 13 = .ok (.ireturn, 1) := by decide +kernel
theorem dX1_end_14 : decode cX1_end 14 = .ok (.aload_n 0, 1) := by decide +kernel
theorem dX1_end_15 : decode cX1_end 15 = .ok (.getfield 20, 3) := by decide +kernel
theorem dX1_end_18 : decode cX1_end 18 = .ok (.iload_n 1, 1) := by decide +kernel
theorem dX1_end_19 : decode cX1_end 19 = .ok (.aload_n 0, 1) := by decide +kernel
theorem dX1_end_20 : decode cX1_end 20 = .ok (.getfield 33, 3) := by decide +kernel
theorem dX1_end_23 : decode cX1_end 23 = .ok (.iastore, 1) := by decide +kernel
theorem dX1_end_24 : decode cX1_end 24 = .ok (.aload_n 0, 1) := by decide +kernel
theorem dX1_end_25 : decode cX1_end 25 = .ok (.getfield 23, 3) := by decide +kernel
theorem dX1_end_28 : decode cX1_end 28 = .ok (.iload_n 1, 1) := by decide +kernel
theorem dX1_end_29 : decode cX1_end 29 = .ok (.lload_n 2, 1) := by decide +kernel
theorem dX1_end_30 : decode cX1_end 30 = .ok (.lastore, 1) := by decide +kernel
theorem dX1_end_31 : decode cX1_end 31 = .ok (.aload_n 0, 1) := by decide +kernel
theorem dX1_end_32 : decode cX1_end 32 = .ok (.getfield 27, 3) := by decide +kernel
theorem dX1_end_35 : decode cX1_end 35 = .ok (.iload_n 1, 1) := by decide +kernel
theorem dX1_end_36 : decode cX1_end 36 = .ok (.iload 4, 2) := by decide +kernel
theorem dX1_end_38 : decode cX1_end 38 = .ok (.iastore, 1) := by decide +kernel
theorem dX1_end_39 : decode cX1_end 39 = .ok (.aload_n 0, 1) := by decide +kernel
theorem dX1_end_40 : decode cX1_end 40 = .ok (.getfield 30, 3) := by decide +kernel
theorem dX1_end_43 : decode cX1_end 43 = .ok (.iload_n 1, 1) := by decide +kernel
theorem dX1_end_44 : decode cX1_end 44 = .ok (.iload 5, 2) := by decide +kernel
theorem dX1_end_46 : decode cX1_end 46 = .ok (.iastore, 1) := by decide +kernel
theorem dX1_end_47 : decode cX1_end 47 = .ok (.aload_n 0, 1) := by decide +kernel
theorem dX1_end_48 : decode cX1_end 48 = .ok (.getfield 17, 3) := by decide +kernel
theorem dX1_end_51 : decode cX1_end 51 = .ok (.iload_n 1, 1) := by decide +kernel
theorem dX1_end_52 : decode cX1_end 52 = .ok (.iaload, 1) := by decide +kernel
theorem dX1_end_53 : decode cX1_end 53 = .ok (.ireturn, 1) := by decide +kernel
set_option maxRecDepth 20000 in
theorem ggX1_tell_X1_has : GoodIn wsX1_tell wsX1_has := goodIn_r _ [11, 12, 29, 30, 31, 32, 33, 34, 35, 36, 37, 38, 39] (by decide +kernel) (by decide +kernel)
set_option maxRecDepth 20000 in
theorem gX1_tell_X1_has : GoodIn wsX1_tell (wsV RX1 50 RX1 yX1_has wsX1_has) := goodIn_app (goodIn_of _ (by decide +kernel)) ggX1_tell_X1_has
set_option maxRecDepth 20000 in
theorem ggX1_tell_X1_tellHere : GoodIn wsX1_tell wsX1_tellHere := goodIn_r _ [16, 2, 3, 29, 30, 31, 32, 33, 34, 35, 36, 37, 38, 39] (by decide +kernel) (by decide +kernel)
set_option maxRecDepth 20000 in
theorem gX1_tell_X1_tellHere : GoodIn wsX1_tell (wsV RX1 60 RX1 yX1_tellHere wsX1_tellHere) := goodIn_app (goodIn_of _ (by decide +kernel)) ggX1_tell_X1_tellHere
set_option maxRecDepth 20000 in
theorem ggX1_tell_X1_pass : GoodIn wsX1_tell wsX1_pass := goodIn_r _ [20, 5, 1, 6, 2, 3, 21, 22, 23, 10, 24, 25, 26, 27, 28, 29, 30, 31, 32, 33, 34, 35, 36, 37, 38, 39] (by decide +kernel) (by decide +kernel)
set_option maxRecDepth 20000 in
theorem gX1_tell_X1_pass : GoodIn wsX1_tell (wsV RX1 64 RX1 yX1_pass wsX1_pass) := goodIn_app (goodIn_of _ (by decide +kernel)) ggX1_tell_X1_pass
theorem dX1_tell_0 : decode cX1_tell 0 = .ok (.aload_n 0, 1) := by decide +kernel
theorem dX1_tell_1 : decode cX1_tell 1 = .ok (.lload_n 1, 1) := by decide +kernel
theorem dX1_tell_2 : decode cX1_tell 2 = .ok (.invokevirtual 50, 3) := by decide +kernel
theorem dX1_tell_5 : decode cX1_tell 5 = .ok (.ifCond .ne 5, 3) := by decide +kernel
theorem dX1_tell_8 : decode cX1_tell 8 = .ok (.iconst (-1), 1) := by decide +kernel
theorem dX1_tell_9 : decode cX1_tell 9 = .ok (.ireturn, 1) := by decide +kernel
theorem dX1_tell_10 : decode cX1_tell 10 = .ok (.aload_n 0, 1) := by decide +kernel
theorem dX1_tell_11 : decode cX1_tell 11 = .ok (.lload_n 1, 1) := by decide +kernel
theorem dX1_tell_12 : decode cX1_tell 12 = .ok (.putfield 41, 3) := by decide +kernel
theorem dX1_tell_15 : decode cX1_tell 15 = .ok (.aload_n 0, 1) := by decide +kernel
theorem dX1_tell_16 : decode cX1_tell 16 = .ok (.iconst 0, 1) := by decide +kernel
theorem dX1_tell_17 : decode cX1_tell 17 = .ok (.putfield 44, 3) := by decide +kernel
theorem dX1_tell_20 : decode cX1_tell 20 = .ok (.aload_n 0, 1) := by decide +kernel
theorem dX1_tell_21 : decode cX1_tell 21 = .ok (.bipush 100, 2) := by decide +kernel
theorem dX1_tell_23 : decode cX1_tell 23 = .ok (.putfield 47, 3) := by decide +kernel
theorem dX1_tell_26 : decode cX1_tell 26 = .ok (.iconst 0, 1) := by decide +kernel
theorem dX1_tell_27 : decode cX1_tell 27 = .ok (.istore 4, 2) := by decide +kernel
theorem dX1_tell_29 : decode cX1_tell 29 = .ok (.iconst 0, 1) := by decide +kernel
theorem dX1_tell_30 : decode cX1_tell 30 = .ok (.istore 5, 2) := by decide +kernel
theorem dX1_tell_32 : decode cX1_tell 32 = .ok (.iload 5, 2) := by decide +kernel
theorem dX1_tell_34 : decode cX1_tell 34 = .ok (.bipush 80, 2) := by decide +kernel
theorem dX1_tell_36 : decode cX1_tell 36 = .ok (.if_icmp .ge 63, 3) := by decide +kernel
theorem dX1_tell_39 : decode cX1_tell 39 = .ok (.iload 4, 2) := by decide +kernel
theorem dX1_tell_41 : decode cX1_tell 41 = .ok (.ifCond .lt 58, 3) := by decide +kernel
theorem dX1_tell_44 : decode cX1_tell 44 = .ok (.iload 4, 2) := by decide +kernel
theorem dX1_tell_46 : decode cX1_tell 46 = .ok (.aload_n 0, 1) := by decide +kernel
theorem dX1_tell_47 : decode cX1_tell 47 = .ok (.getfield 33, 3) := by decide +kernel
theorem dX1_tell_50 : decode cX1_tell 50 = .ok (.if_icmp .ge 49, 3) := by decide +kernel
theorem dX1_tell_53 : decode cX1_tell 53 = .ok (.aload_n 0, 1) := by decide +kernel
theorem dX1_tell_54 : decode cX1_tell 54 = .ok (.getfield 13, 3) := by decide +kernel
theorem dX1_tell_57 : decode cX1_tell 57 = .ok (.iload 4, 2) := by decide +kernel
theorem dX1_tell_59 : decode cX1_tell 59 = .ok (.iaload, 1) := by decide +kernel
theorem dX1_tell_60 : decode cX1_tell 60 = .ok (.ifCond .ne 25, 3) := by decide +kernel
theorem dX1_tell_63 : decode cX1_tell 63 = .ok (.aload_n 0, 1) := by decide +kernel
theorem dX1_tell_64 : decode cX1_tell 64 = .ok (.getfield 41, 3) := by decide +kernel
theorem dX1_tell_67 : decode cX1_tell 67 = .ok (.lconst 0, 1) := by decide +kernel
theorem dX1_tell_68 : decode cX1_tell 68 = .ok (.lcmp, 1) := by decide +kernel
theorem dX1_tell_69 : decode cX1_tell 69 = .ok (.ifCond .ne 16, 3) := by decide +kernel
theorem dX1_tell_72 : decode cX1_tell 72 = .ok (.aload_n 0, 1) := by decide +kernel
theorem dX1_tell_73 : decode cX1_tell 73 = .ok (.aload_n 0, 1) := by decide +kernel
theorem dX1_tell_74 : decode cX1_tell 74 = .ok (.getfield 17, 3) := by decide +kernel
theorem dX1_tell_77 : decode cX1_tell 77 = .ok (.iload 4, 2) := by decide +kernel
theorem dX1_tell_79 : decode cX1_tell 79 = .ok (.iaload, 1) := by decide +kernel
theorem dX1_tell_80 : decode cX1_tell 80 = .ok (.iload_n 3, 1) := by decide +kernel
theorem dX1_tell_81 : decode cX1_tell 81 = .ok (.invokevirtual 60, 3) := by decide +kernel
theorem dX1_tell_84 : decode cX1_tell 84 = .ok (.ireturn, 1) := by decide +kernel
theorem dX1_tell_85 : decode cX1_tell 85 = .ok (.aload_n 0, 1) := by decide +kernel
theorem dX1_tell_86 : decode cX1_tell 86 = .ok (.iload 4, 2) := by decide +kernel
theorem dX1_tell_88 : decode cX1_tell 88 = .ok (.invokevirtual 64, 3) := by decide +kernel
theorem dX1_tell_91 : decode cX1_tell 91 = .ok (.istore 4, 2) := by decide +kernel
theorem dX1_tell_93 : decode cX1_tell 93 = .ok (.iinc 5 1, 3) := by decide +kernel
theorem dX1_tell_96 : decode cX1_tell 96 = .ok (.goto (-64), 3) := by decide +kernel
theorem dX1_tell_99 : decode cX1_tell 99 = .ok (.iconst (-1), 1) := by decide +kernel
theorem dX1_tell_100 : decode cX1_tell 100 = .ok (.ireturn, 1) := by decide +kernel
theorem dX1_tellHere_0 : decode cX1_tellHere 0 = .ok (.iload_n 2, 1) := by decide +kernel
theorem dX1_tellHere_1 : decode cX1_tellHere 1 = .ok (.tableswitch 39 0 2 #[27, 29, 34], 27) := by decide +kernel
theorem dX1_tellHere_28 : decode cX1_tellHere 28 = .ok (.iload_n 1, 1) := by decide +kernel
theorem dX1_tellHere_29 : decode cX1_tellHere 29 = .ok (.ireturn, 1) := by decide +kernel
theorem dX1_tellHere_30 : decode cX1_tellHere 30 = .ok (.aload_n 0, 1) := by decide +kernel
theorem dX1_tellHere_31 : decode cX1_tellHere 31 = .ok (.getfield 44, 3) := by decide +kernel
theorem dX1_tellHere_34 : decode cX1_tellHere 34 = .ok (.ireturn, 1) := by decide +kernel
theorem dX1_tellHere_35 : decode cX1_tellHere 35 = .ok (.aload_n 0, 1) := by decide +kernel
theorem dX1_tellHere_36 : decode cX1_tellHere 36 = .ok (.getfield 47, 3) := by decide +kernel
theorem dX1_tellHere_39 : decode cX1_tellHere 39 = .ok (.ireturn, 1) := by decide +kernel
theorem dX1_tellHere_40 : decode cX1_tellHere 40 = .ok (.iconst (-1), 1) := by decide +kernel
theorem dX1_tellHere_41 : decode cX1_tellHere 41 = .ok (.ireturn, 1) := by decide +kernel
set_option maxRecDepth 20000 in
theorem ggX1_pass_X1_passBracket : GoodIn wsX1_pass wsX1_passBracket := goodIn_r _ [10, 11, 2, 3, 1, 12, 4, 13, 5, 14, 15, 16, 17, 18, 19, 20, 21, 22, 23, 24, 25] (by decide +kernel) (by decide +kernel)
set_option maxRecDepth 20000 in
theorem gX1_pass_X1_passBracket : GoodIn wsX1_pass (wsV RX1 68 RX1 yX1_passBracket wsX1_passBracket) := goodIn_app (goodIn_of _ (by decide +kernel)) ggX1_pass_X1_passBracket
theorem dX1_pass_0 : decode cX1_pass 0 = .ok (.aload_n 0, 1) := by decide +kernel
theorem dX1_pass_1 : decode cX1_pass 1 = .ok (.getfield 13, 3) := by decide +kernel
theorem dX1_pass_4 : decode cX1_pass 4 = .ok (.iload_n 1, 1) := by decide +kernel
theorem dX1_pass_5 : decode cX1_pass 5 = .ok (.iaload, 1) := by decide +kernel
theorem dX1_pass_6 : decode cX1_pass 6 = .ok (.tableswitch 68 0 2 #[26, 40, 54], 26) := by decide +kernel
theorem dX1_pass_32 : decode cX1_pass 32 = .ok (.aload_n 0, 1) := by decide +kernel
theorem dX1_pass_33 : decode cX1_pass 33 = .ok (.dup, 1) := by decide +kernel
theorem dX1_pass_34 : decode cX1_pass 34 = .ok (.getfield 41, 3) := by decide +kernel
theorem dX1_pass_37 : decode cX1_pass 37 = .ok (.lconst 1, 1) := by decide +kernel
theorem dX1_pass_38 : decode cX1_pass 38 = .ok (.lsub, 1) := by decide +kernel
theorem dX1_pass_39 : decode cX1_pass 39 = .ok (.putfield 41, 3) := by decide +kernel
theorem dX1_pass_42 : decode cX1_pass 42 = .ok (.iload_n 1, 1) := by decide +kernel
theorem dX1_pass_43 : decode cX1_pass 43 = .ok (.iconst 1, 1) := by decide +kernel
theorem dX1_pass_44 : decode cX1_pass 44 = .ok (.iadd, 1) := by decide +kernel
theorem dX1_pass_45 : decode cX1_pass 45 = .ok (.ireturn, 1) := by decide +kernel
theorem dX1_pass_46 : decode cX1_pass 46 = .ok (.aload_n 0, 1) := by decide +kernel
theorem dX1_pass_47 : decode cX1_pass 47 = .ok (.aload_n 0, 1) := by decide +kernel
theorem dX1_pass_48 : decode cX1_pass 48 = .ok (.getfield 17, 3) := by decide +kernel
theorem dX1_pass_51 : decode cX1_pass 51 = .ok (.iload_n 1, 1) := by decide +kernel
theorem dX1_pass_52 : decode cX1_pass 52 = .ok (.iaload, 1) := by decide +kernel
theorem dX1_pass_53 : decode cX1_pass 53 = .ok (.putfield 44, 3) := by decide +kernel
theorem dX1_pass_56 : decode cX1_pass 56 = .ok (.iload_n 1, 1) := by decide +kernel
theorem dX1_pass_57 : decode cX1_pass 57 = .ok (.iconst 1, 1) := by decide +kernel
theorem dX1_pass_58 : decode cX1_pass 58 = .ok (.iadd, 1) := by decide +kernel
theorem dX1_pass_59 : decode cX1_pass 59 = .ok (.ireturn, 1) := by decide +kernel
theorem dX1_pass_60 : decode cX1_pass 60 = .ok (.aload_n 0, 1) := by decide +kernel
theorem dX1_pass_61 : decode cX1_pass 61 = .ok (.aload_n 0, 1) := by decide +kernel
theorem dX1_pass_62 : decode cX1_pass 62 = .ok (.getfield 17, 3) := by decide +kernel
theorem dX1_pass_65 : decode cX1_pass 65 = .ok (.iload_n 1, 1) := by decide +kernel
theorem dX1_pass_66 : decode cX1_pass 66 = .ok (.iaload, 1) := by decide +kernel
theorem dX1_pass_67 : decode cX1_pass 67 = .ok (.putfield 47, 3) := by decide +kernel
theorem dX1_pass_70 : decode cX1_pass 70 = .ok (.iload_n 1, 1) := by decide +kernel
theorem dX1_pass_71 : decode cX1_pass 71 = .ok (.iconst 1, 1) := by decide +kernel
theorem dX1_pass_72 : decode cX1_pass 72 = .ok (.iadd, 1) := by decide +kernel
theorem dX1_pass_73 : decode cX1_pass 73 = .ok (.ireturn, 1) := by decide +kernel
theorem dX1_pass_74 : decode cX1_pass 74 = .ok (.aload_n 0, 1) := by decide +kernel
theorem dX1_pass_75 : decode cX1_pass 75 = .ok (.iload_n 1, 1) := by decide +kernel
theorem dX1_pass_76 : decode cX1_pass 76 = .ok (.invokevirtual 68, 3) := by decide +kernel
theorem dX1_pass_79 : decode cX1_pass 79 = .ok (.ireturn, 1) := by decide +kernel
theorem dX1_passBracket_0 : decode cX1_passBracket 0 = .ok (.aload_n 0, 1) := by decide +kernel
theorem dX1_passBracket_1 : decode cX1_passBracket 1 = .ok (.getfield 23, 3) := by decide +kernel
theorem dX1_passBracket_4 : decode cX1_passBracket 4 = .ok (.iload_n 1, 1) := by decide +kernel
theorem dX1_passBracket_5 : decode cX1_passBracket 5 = .ok (.laload, 1) := by decide +kernel
theorem dX1_passBracket_6 : decode cX1_passBracket 6 = .ok (.lstore_n 2, 1) := by decide +kernel
theorem dX1_passBracket_7 : decode cX1_passBracket 7 = .ok (.aload_n 0, 1) := by decide +kernel
theorem dX1_passBracket_8 : decode cX1_passBracket 8 = .ok (.getfield 41, 3) := by decide +kernel
theorem dX1_passBracket_11 : decode cX1_passBracket 11 = .ok (.lload_n 2, 1) := by decide +kernel
theorem dX1_passBracket_12 : decode cX1_passBracket 12 = .ok (.lcmp, 1) := by decide +kernel
theorem dX1_passBracket_13 : decode cX1_passBracket 13 = .ok (.ifCond .ge 7, 3) := by decide +kernel
theorem dX1_passBracket_16 : decode cX1_passBracket 16 = .ok (.iload_n 1, 1) := by decide +kernel
theorem dX1_passBracket_17 : decode cX1_passBracket 17 = .ok (.iconst 1, 1) := by decide +kernel
theorem dX1_passBracket_18 : decode cX1_passBracket 18 = .ok (.iadd, 1) := by decide +kernel
theorem dX1_passBracket_19 : decode cX1_passBracket 19 = .ok (.ireturn, 1) := by decide +kernel
theorem dX1_passBracket_20 : decode cX1_passBracket 20 = .ok (.lload_n 2, 1) := by decide +kernel
theorem dX1_passBracket_21 : decode cX1_passBracket 21 = .ok (.aload_n 0, 1) := by decide +kernel
theorem dX1_passBracket_22 : decode cX1_passBracket 22 = .ok (.getfield 17, 3) := by decide +kernel
theorem dX1_passBracket_25 : decode cX1_passBracket 25 = .ok (.iload_n 1, 1) := by decide +kernel
theorem dX1_passBracket_26 : decode cX1_passBracket 26 = .ok (.iaload, 1) := by decide +kernel
theorem dX1_passBracket_27 : decode cX1_passBracket 27 = .ok (.i2l, 1) := by decide +kernel
theorem dX1_passBracket_28 : decode cX1_passBracket 28 = .ok (.lmul, 1) := by decide +kernel
theorem dX1_passBracket_29 : decode cX1_passBracket 29 = .ok (.lstore 4, 2) := by decide +kernel
theorem dX1_passBracket_31 : decode cX1_passBracket 31 = .ok (.aload_n 0, 1) := by decide +kernel
theorem dX1_passBracket_32 : decode cX1_passBracket 32 = .ok (.getfield 13, 3) := by decide +kernel
theorem dX1_passBracket_35 : decode cX1_passBracket 35 = .ok (.iload_n 1, 1) := by decide +kernel
theorem dX1_passBracket_36 : decode cX1_passBracket 36 = .ok (.iaload, 1) := by decide +kernel
theorem dX1_passBracket_37 : decode cX1_passBracket 37 = .ok (.iconst 4, 1) := by decide +kernel
theorem dX1_passBracket_38 : decode cX1_passBracket 38 = .ok (.if_icmp .ne 30, 3) := by decide +kernel
theorem dX1_passBracket_41 : decode cX1_passBracket 41 = .ok (.aload_n 0, 1) := by decide +kernel
theorem dX1_passBracket_42 : decode cX1_passBracket 42 = .ok (.getfield 41, 3) := by decide +kernel
theorem dX1_passBracket_45 : decode cX1_passBracket 45 = .ok (.lload 4, 2) := by decide +kernel
theorem dX1_passBracket_47 : decode cX1_passBracket 47 = .ok (.lcmp, 1) := by decide +kernel
theorem dX1_passBracket_48 : decode cX1_passBracket 48 = .ok (.ifCond .ge 20, 3) := by decide +kernel
theorem dX1_passBracket_51 : decode cX1_passBracket 51 = .ok (.aload_n 0, 1) := by decide +kernel
theorem dX1_passBracket_52 : decode cX1_passBracket 52 = .ok (.lload 4, 2) := by decide +kernel
theorem dX1_passBracket_54 : decode cX1_passBracket 54 = .ok (.lconst 1, 1) := by decide +kernel
theorem dX1_passBracket_55 : decode cX1_passBracket 55 = .ok (.lsub, 1) := by decide +kernel
theorem dX1_passBracket_56 : decode cX1_passBracket 56 = .ok (.aload_n 0, 1) := by decide +kernel
theorem dX1_passBracket_57 : decode cX1_passBracket 57 = .ok (.getfield 41, 3) := by decide +kernel
theorem dX1_passBracket_60 : decode cX1_passBracket 60 = .ok (.lsub, 1) := by decide +kernel
theorem dX1_passBracket_61 : decode cX1_passBracket 61 = .ok (.putfield 41, 3) := by decide +kernel
theorem dX1_passBracket_64 : decode cX1_passBracket 64 = .ok (.iload_n 1, 1) := by decide +kernel
theorem dX1_passBracket_65 : decode cX1_passBracket 65 = .ok (.iconst 1, 1) := by decide +kernel
theorem dX1_passBracket_66 : decode cX1_passBracket 66 = .ok (.iadd, 1) := by decide +kernel
theorem dX1_passBracket_67 : decode cX1_passBracket 67 = .ok (.ireturn, 1) := by decide +kernel
theorem dX1_passBracket_68 : decode cX1_passBracket 68 = .ok (.aload_n 0, 1) := by decide +kernel
theorem dX1_passBracket_69 : decode cX1_passBracket 69 = .ok (.getfield 27, 3) := by decide +kernel
theorem dX1_passBracket_72 : decode cX1_passBracket 72 = .ok (.iload_n 1, 1) := by decide +kernel
theorem dX1_passBracket_73 : decode cX1_passBracket 73 = .ok (.iaload, 1) := by decide +kernel
theorem dX1_passBracket_74 : decode cX1_passBracket 74 = .ok (.iconst (-1), 1) := by decide +kernel
theorem dX1_passBracket_75 : decode cX1_passBracket 75 = .ok (.if_icmp .eq 13, 3) := by decide +kernel
theorem dX1_passBracket_78 : decode cX1_passBracket 78 = .ok (.aload_n 0, 1) := by decide +kernel
theorem dX1_passBracket_79 : decode cX1_passBracket 79 = .ok (.aload_n 0, 1) := by decide +kernel
theorem dX1_passBracket_80 : decode cX1_passBracket 80 = .ok (.getfield 27, 3) := by decide +kernel
theorem dX1_passBracket_83 : decode cX1_passBracket 83 = .ok (.iload_n 1, 1) := by decide +kernel
theorem dX1_passBracket_84 : decode cX1_passBracket 84 = .ok (.iaload, 1) := by decide +kernel
theorem dX1_passBracket_85 : decode cX1_passBracket 85 = .ok (.putfield 44, 3) := by decide +kernel
theorem dX1_passBracket_88 : decode cX1_passBracket 88 = .ok (.aload_n 0, 1) := by decide +kernel
theorem dX1_passBracket_89 : decode cX1_passBracket 89 = .ok (.getfield 30, 3) := by decide +kernel
theorem dX1_passBracket_92 : decode cX1_passBracket 92 = .ok (.iload_n 1, 1) := by decide +kernel
theorem dX1_passBracket_93 : decode cX1_passBracket 93 = .ok (.iaload, 1) := by decide +kernel
theorem dX1_passBracket_94 : decode cX1_passBracket 94 = .ok (.iconst (-1), 1) := by decide +kernel
theorem dX1_passBracket_95 : decode cX1_passBracket 95 = .ok (.if_icmp .eq 13, 3) := by decide +kernel
theorem dX1_passBracket_98 : decode cX1_passBracket 98 = .ok (.aload_n 0, 1) := by decide +kernel
theorem dX1_passBracket_99 : decode cX1_passBracket 99 = .ok (.aload_n 0, 1) := by decide +kernel
theorem dX1_passBracket_100 : decode cX1_passBracket 100 = .ok (.getfield 30, 3) := by decide +kernel
theorem dX1_passBracket_103 : decode cX1_passBracket 103 = .ok (.iload_n 1, 1) := by decide +kernel
theorem dX1_passBracket_104 : decode cX1_passBracket 104 = .ok (.iaload, 1) := by decide +kernel
theorem dX1_passBracket_105 : decode cX1_passBracket 105 = .ok (.putfield 47, 3) := by decide +kernel
theorem dX1_passBracket_108 : decode cX1_passBracket 108 = .ok (.aload_n 0, 1) := by decide +kernel
theorem dX1_passBracket_109 : decode cX1_passBracket 109 = .ok (.getfield 41, 3) := by decide +kernel
theorem dX1_passBracket_112 : decode cX1_passBracket 112 = .ok (.lload 4, 2) := by decide +kernel
theorem dX1_passBracket_114 : decode cX1_passBracket 114 = .ok (.lcmp, 1) := by decide +kernel
theorem dX1_passBracket_115 : decode cX1_passBracket 115 = .ok (.ifCond .ge 23, 3) := by decide +kernel
theorem dX1_passBracket_118 : decode cX1_passBracket 118 = .ok (.lload_n 2, 1) := by decide +kernel
theorem dX1_passBracket_119 : decode cX1_passBracket 119 = .ok (.lconst 0, 1) := by decide +kernel
theorem dX1_passBracket_120 : decode cX1_passBracket 120 = .ok (.lcmp, 1) := by decide +kernel
theorem dX1_passBracket_121 : decode cX1_passBracket 121 = .ok (.ifCond .le 17, 3) := by decide +kernel
theorem dX1_passBracket_124 : decode cX1_passBracket 124 = .ok (.aload_n 0, 1) := by decide +kernel
theorem dX1_passBracket_125 : decode cX1_passBracket 125 = .ok (.dup, 1) := by decide +kernel
theorem dX1_passBracket_126 : decode cX1_passBracket 126 = .ok (.getfield 41, 3) := by decide +kernel
theorem dX1_passBracket_129 : decode cX1_passBracket 129 = .ok (.lload_n 2, 1) := by decide +kernel
theorem dX1_passBracket_130 : decode cX1_passBracket 130 = .ok (.lrem, 1) := by decide +kernel
theorem dX1_passBracket_131 : decode cX1_passBracket 131 = .ok (.putfield 41, 3) := by decide +kernel
theorem dX1_passBracket_134 : decode cX1_passBracket 134 = .ok (.iload_n 1, 1) := by decide +kernel
theorem dX1_passBracket_135 : decode cX1_passBracket 135 = .ok (.iconst 1, 1) := by decide +kernel
theorem dX1_passBracket_136 : decode cX1_passBracket 136 = .ok (.iadd, 1) := by decide +kernel
theorem dX1_passBracket_137 : decode cX1_passBracket 137 = .ok (.ireturn, 1) := by decide +kernel
theorem dX1_passBracket_138 : decode cX1_passBracket 138 = .ok (.aload_n 0, 1) := by decide +kernel
theorem dX1_passBracket_139 : decode cX1_passBracket 139 = .ok (.dup, 1) := by decide +kernel
theorem dX1_passBracket_140 : decode cX1_passBracket 140 = .ok (.getfield 41, 3) := by decide +kernel
theorem dX1_passBracket_143 : decode cX1_passBracket 143 = .ok (.lload 4, 2) := by decide +kernel
theorem dX1_passBracket_145 : decode cX1_passBracket 145 = .ok (.lsub, 1) := by decide +kernel
theorem dX1_passBracket_146 : decode cX1_passBracket 146 = .ok (.putfield 41, 3) := by decide +kernel
theorem dX1_passBracket_149 : decode cX1_passBracket 149 = .ok (.aload_n 0, 1) := by decide +kernel
theorem dX1_passBracket_150 : decode cX1_passBracket 150 = .ok (.getfield 20, 3) := by decide +kernel
theorem dX1_passBracket_153 : decode cX1_passBracket 153 = .ok (.iload_n 1, 1) := by decide +kernel
theorem dX1_passBracket_154 : decode cX1_passBracket 154 = .ok (.iaload, 1) := by decide +kernel
theorem dX1_passBracket_155 : decode cX1_passBracket 155 = .ok (.ireturn, 1) := by decide +kernel
set_option maxRecDepth 20000 in
theorem ggX2_init_X5_init : GoodIn wsX2_init wsX5_init := goodIn_r _ [23, 24, 2, 3, 15, 25, 26, 42, 43] (by decide +kernel) (by decide +kernel)
set_option maxRecDepth 20000 in
theorem gX2_init_X5_init : GoodIn wsX2_init (wsX5_init) := ggX2_init_X5_init
set_option maxRecDepth 20000 in
theorem ggX2_init_X1_init : GoodIn wsX2_init wsX1_init := goodIn_r _ [29, 30, 2, 3, 15, 31, 32, 33, 17, 34, 35, 36, 37, 38, 39, 40, 41, 53, 54, 55, 56, 57, 58, 59, 60, 61, 62, 63] (by decide +kernel) (by decide +kernel)
set_option maxRecDepth 20000 in
theorem gX2_init_X1_init : GoodIn wsX2_init (wsX1_init) := ggX2_init_X1_init
theorem dX2_init_0 : decode cX2_init 0 = .ok (.aload_n 0, 1) := by decide +kernel
theorem dX2_init_1 : decode cX2_init 1 = .ok (.invokespecial 3, 3) := by decide +kernel
theorem dX2_init_4 : decode cX2_init 4 = .ok (.aload_n 0, 1) := by decide +kernel
theorem dX2_init_5 : decode cX2_init 5 = .ok (.new 9, 3) := by decide +kernel
theorem dX2_init_8 : decode cX2_init 8 = .ok (.dup, 1) := by decide +kernel
theorem dX2_init_9 : decode cX2_init 9 = .ok (.invokespecial 11, 3) := by decide +kernel
theorem dX2_init_12 : decode cX2_init 12 = .ok (.putfield 12, 3) := by decide +kernel
theorem dX2_init_15 : decode cX2_init 15 = .ok (.aload_n 0, 1) := by decide +kernel
theorem dX2_init_16 : decode cX2_init 16 = .ok (.new 18, 3) := by decide +kernel
theorem dX2_init_19 : decode cX2_init 19 = .ok (.dup, 1) := by decide +kernel
theorem dX2_init_20 : decode cX2_init 20 = .ok (.invokespecial 20, 3) := by decide +kernel
theorem dX2_init_23 : decode cX2_init 23 = .ok (.putfield 21, 3) := by decide +kernel
theorem dX2_init_26 : decode cX2_init 26 = .ok (.aload_n 0, 1) := by decide +kernel
theorem dX2_init_27 : decode cX2_init 27 = .ok (.iconst 0, 1) := by decide +kernel
theorem dX2_init_28 : decode cX2_init 28 = .ok (.putfield 25, 3) := by decide +kernel
theorem dX2_init_31 : decode cX2_init 31 = .ok (.aload_n 0, 1) := by decide +kernel
theorem dX2_init_32 : decode cX2_init 32 = .ok (.iconst (-1), 1) := by decide +kernel
theorem dX2_init_33 : decode cX2_init 33 = .ok (.putfield 29, 3) := by decide +kernel
theorem dX2_init_36 : decode cX2_init 36 = .ok (.aload_n 0, 1) := by decide +kernel
theorem dX2_init_37 : decode cX2_init 37 = .ok (.iconst 0, 1) := by decide +kernel
theorem dX2_init_38 : decode cX2_init 38 = .ok (.putfield 32, 3) := by decide +kernel
theorem dX2_init_41 : decode cX2_init 41 = .ok (.aload_n 0, 1) := by decide +kernel
theorem dX2_init_42 : decode cX2_init 42 = .ok (.bipush 7, 2) := by decide +kernel
theorem dX2_init_44 : decode cX2_init 44 = .ok (.newarray .int, 2) := by decide +kernel
theorem dX2_init_46 : decode cX2_init 46 = .ok (.putfield 35, 3) := by decide +kernel
theorem dX2_init_49 : decode cX2_init 49 = .ok (.aload_n 0, 1) := by decide +kernel
theorem dX2_init_50 : decode cX2_init 50 = .ok (.bipush 7, 2) := by decide +kernel
theorem dX2_init_52 : decode cX2_init 52 = .ok (.newarray .long, 2) := by decide +kernel
theorem dX2_init_54 : decode cX2_init 54 = .ok (.putfield 39, 3) := by decide +kernel
theorem dX2_init_57 : decode cX2_init 57 = .ok (.aload_n 0, 1) := by decide +kernel
theorem dX2_init_58 : decode cX2_init 58 = .ok (.bipush 7, 2) := by decide +kernel
theorem dX2_init_60 : decode cX2_init 60 = .ok (.newarray .int, 2) := by decide +kernel
theorem dX2_init_62 : decode cX2_init 62 = .ok (.putfield 43, 3) := by decide +kernel
theorem dX2_init_65 : decode cX2_init 65 = .ok (.aload_n 0, 1) := by decide +kernel
theorem dX2_init_66 : decode cX2_init 66 = .ok (.bipush 7, 2) := by decide +kernel
theorem dX2_init_68 : decode cX2_init 68 = .ok (.newarray .int, 2) := by decide +kernel
theorem dX2_init_70 : decode cX2_init 70 = .ok (.putfield 46, 3) := by decide +kernel
theorem dX2_init_73 : decode cX2_init 73 = .ok (.return_, 1) := by decide +kernel
theorem dX2_exchange_0 : decode cX2_exchange 0 = .ok (.aload_n 0, 1) := by decide +kernel
theorem dX2_exchange_1 : decode cX2_exchange 1 = .ok (.getfield 21, 3) := by decide +kernel
theorem dX2_exchange_4 : decode cX2_exchange 4 = .ok (.astore_n 2, 1) := by decide +kernel
theorem dX2_exchange_5 : decode cX2_exchange 5 = .ok (.aload_n 0, 1) := by decide +kernel
theorem dX2_exchange_6 : decode cX2_exchange 6 = .ok (.aload_n 1, 1) := by decide +kernel
theorem dX2_exchange_7 : decode cX2_exchange 7 = .ok (.putfield 21, 3) := by decide +kernel
theorem dX2_exchange_10 : decode cX2_exchange 10 = .ok (.aload_n 2, 1) := by decide +kernel
theorem dX2_exchange_11 : decode cX2_exchange 11 = .ok (.areturn, 1) := by decide +kernel
set_option maxRecDepth 20000 in
theorem ggX2_read_X1_clear : GoodIn wsX2_read wsX1_clear := goodIn_r _ [12, 13, 14, 120, 121, 122, 123, 124, 125, 126, 127, 128, 129, 130] (by decide +kernel) (by decide +kernel)
set_option maxRecDepth 20000 in
theorem gX2_read_X1_clear : GoodIn wsX2_read (wsV RX2 49 RX1 yX1_clear wsX1_clear) := goodIn_app (goodIn_of _ (by decide +kernel)) ggX2_read_X1_clear
set_option maxRecDepth 20000 in
theorem ggX2_read_X5_behindBlanks : GoodIn wsX2_read wsX5_behindBlanks := goodIn_r _ [19, 20, 21, 22, 18, 23, 24, 25, 118, 119] (by decide +kernel) (by decide +kernel)
set_option maxRecDepth 20000 in
theorem gX2_read_X5_behindBlanks : GoodIn wsX2_read (wsV RX2 52 RX5 yX5_behindBlanks wsX5_behindBlanks) := goodIn_app (goodIn_of _ (by decide +kernel)) ggX2_read_X5_behindBlanks
set_option maxRecDepth 20000 in
theorem ggX2_read_X2_beginLevel : GoodIn wsX2_read wsX2_beginLevel := goodIn_r _ [30, 31, 5, 6, 32, 33, 109, 110, 111, 112, 113, 114, 115, 116, 117] (by decide +kernel) (by decide +kernel)
set_option maxRecDepth 20000 in
theorem gX2_read_X2_beginLevel : GoodIn wsX2_read (wsV RX2 56 RX2 yX2_beginLevel wsX2_beginLevel) := goodIn_app (goodIn_of _ (by decide +kernel)) ggX2_read_X2_beginLevel
set_option maxRecDepth 20000 in
theorem ggX2_read_X2_readItem : GoodIn wsX2_read wsX2_readItem := goodIn_r _ [37, 2, 3, 38, 21, 22, 18, 23, 24, 25, 39, 40, 41, 29, 42, 1, 43, 44, 45, 46, 47, 48, 49, 50, 51, 52, 53, 54, 55, 56, 57, 58, 4, 59, 60, 61, 11, 62, 13, 63, 64, 65, 66, 67, 68, 6, 5, 69, 70, 71, 72, 73, 74, 75, 76, 32, 77, 78, 79, 80, 33, 81, 82, 83, 84, 85, 86, 87, 88, 89, 90, 91, 92, 31, 15, 16, 17, 19, 20, 26, 27, 28, 30, 93, 94, 95, 96, 97, 98, 99, 100, 101, 102, 103, 104, 109, 110, 111, 112, 113, 114, 115, 116, 117, 118, 119, 120, 121, 122, 123, 124, 125, 126, 127, 128, 129, 130] (by decide +kernel) (by decide +kernel)
set_option maxRecDepth 20000 in
theorem gX2_read_X2_readItem : GoodIn wsX2_read (wsV RX2 62 RX2 yX2_readItem wsX2_readItem) := goodIn_app (goodIn_of _ (by decide +kernel)) ggX2_read_X2_readItem
set_option maxRecDepth 20000 in
theorem ggX2_read_X2_faultAt : GoodIn wsX2_read wsX2_faultAt := goodIn_r _ [58, 4, 109, 110, 111, 112, 113, 114, 115, 116, 117] (by decide +kernel) (by decide +kernel)
set_option maxRecDepth 20000 in
theorem gX2_read_X2_faultAt : GoodIn wsX2_read (wsV RX2 65 RX2 yX2_faultAt wsX2_faultAt) := goodIn_app (goodIn_of _ (by decide +kernel)) ggX2_read_X2_faultAt
set_option maxRecDepth 20000 in
theorem ggX2_read_X5_clear : GoodIn wsX2_read wsX5_clear := goodIn_r _ [108, 24, 118, 119] (by decide +kernel) (by decide +kernel)
set_option maxRecDepth 20000 in
theorem gX2_read_X5_clear : GoodIn wsX2_read (wsV RX2 74 RX5 yX5_clear wsX5_clear) := goodIn_app (goodIn_of _ (by decide +kernel)) ggX2_read_X5_clear
theorem dX2_read_0 : decode cX2_read 0 = .ok (.aload_n 0, 1) := by decide +kernel
theorem dX2_read_1 : decode cX2_read 1 = .ok (.getfield 21, 3) := by decide +kernel
theorem dX2_read_4 : decode cX2_read 4 = .ok (.invokevirtual 49, 3) := by decide +kernel
theorem dX2_read_7 : decode cX2_read 7 = .ok (.aload_n 0, 1) := by decide +kernel
theorem dX2_read_8 : decode cX2_read 8 = .ok (.aload_n 0, 1) := by decide +kernel
theorem dX2_read_9 : decode cX2_read 9 = .ok (.getfield 12, 3) := by decide +kernel
theorem dX2_read_12 : decode cX2_read 12 = .ok (.iconst 0, 1) := by decide +kernel
theorem dX2_read_13 : decode cX2_read 13 = .ok (.invokevirtual 52, 3) := by decide +kernel
theorem dX2_read_16 : decode cX2_read 16 = .ok (.putfield 25, 3) := by decide +kernel
theorem dX2_read_19 : decode cX2_read 19 = .ok (.aload_n 0, 1) := by decide +kernel
theorem dX2_read_20 : decode cX2_read 20 = .ok (.iconst (-1), 1) := by decide +kernel
theorem dX2_read_21 : decode cX2_read 21 = .ok (.putfield 29, 3) := by decide +kernel
theorem dX2_read_24 : decode cX2_read 24 = .ok (.aload_n 0, 1) := by decide +kernel
theorem dX2_read_25 : decode cX2_read 25 = .ok (.iconst 0, 1) := by decide +kernel
theorem dX2_read_26 : decode cX2_read 26 = .ok (.putfield 32, 3) := by decide +kernel
theorem dX2_read_29 : decode cX2_read 29 = .ok (.aload_n 0, 1) := by decide +kernel
theorem dX2_read_30 : decode cX2_read 30 = .ok (.invokevirtual 56, 3) := by decide +kernel
theorem dX2_read_33 : decode cX2_read 33 = .ok (.aload_n 0, 1) := by decide +kernel
theorem dX2_read_34 : decode cX2_read 34 = .ok (.getfield 25, 3) := by decide +kernel
theorem dX2_read_37 : decode cX2_read 37 = .ok (.istore_n 1, 1) := by decide +kernel
theorem dX2_read_38 : decode cX2_read 38 = .ok (.iconst 0, 1) := by decide +kernel
theorem dX2_read_39 : decode cX2_read 39 = .ok (.istore_n 2, 1) := by decide +kernel
theorem dX2_read_40 : decode cX2_read 40 = .ok (.iload_n 2, 1) := by decide +kernel
theorem dX2_read_41 : decode cX2_read 41 = .ok (.sipush 160, 3) := by decide +kernel
theorem dX2_read_44 : decode cX2_read 44 = .ok (.if_icmp .ge 50, 3) := by decide +kernel
theorem dX2_read_47 : decode cX2_read 47 = .ok (.aload_n 0, 1) := by decide +kernel
theorem dX2_read_48 : decode cX2_read 48 = .ok (.getfield 29, 3) := by decide +kernel
theorem dX2_read_51 : decode cX2_read 51 = .ok (.iconst (-1), 1) := by decide +kernel
theorem dX2_read_52 : decode cX2_read 52 = .ok (.if_icmp .ne 42, 3) := by decide +kernel
theorem dX2_read_55 : decode cX2_read 55 = .ok (.aload_n 0, 1) := by decide +kernel
theorem dX2_read_56 : decode cX2_read 56 = .ok (.getfield 25, 3) := by decide +kernel
theorem dX2_read_59 : decode cX2_read 59 = .ok (.aload_n 0, 1) := by decide +kernel
theorem dX2_read_60 : decode cX2_read 60 = .ok (.getfield 12, 3) := by decide +kernel
theorem dX2_read_63 : decode cX2_read 63 = .ok (.getfield 59, 3) := by decide +kernel
theorem dX2_read_66 : decode cX2_read 66 = .ok (.if_icmp .ge 28, 3) := by decide +kernel
theorem dX2_read_69 : decode cX2_read 69 = .ok (.aload_n 0, 1) := by decide +kernel
theorem dX2_read_70 : decode cX2_read 70 = .ok (.invokevirtual 62, 3) := by decide +kernel
theorem dX2_read_73 : decode cX2_read 73 = .ok (.aload_n 0, 1) := by decide +kernel
theorem dX2_read_74 : decode cX2_read 74 = .ok (.aload_n 0, 1) := by decide +kernel
theorem dX2_read_75 : decode cX2_read 75 = .ok (.getfield 12, 3) := by decide +kernel
theorem dX2_read_78 : decode cX2_read 78 = .ok (.aload_n 0, 1) := by decide +kernel
theorem dX2_read_79 : decode cX2_read 79 = .ok (.getfield 25, 3) := by decide +kernel
theorem dX2_read_82 : decode cX2_read 82 = .ok (.invokevirtual 52, 3) := by decide +kernel
theorem dX2_read_85 : decode cX2_read 85 = .ok (.putfield 25, 3) := by decide +kernel
theorem dX2_read_88 : decode cX2_read 88 = .ok (.iinc 2 1, 3) := by decide +kernel
theorem dX2_read_91 : decode cX2_read 91 = .ok (.goto (-51), 3) := by decide +kernel
theorem dX2_read_94 : decode cX2_read 94 = .ok (.aload_n 0, 1) := by decide +kernel
theorem dX2_read_95 : decode cX2_read 95 = .ok (.getfield 32, 3) := by decide +kernel
theorem dX2_read_98 : decode cX2_read 98 = .ok (.ifCond .le 14, 3) := by decide +kernel
theorem dX2_read_101 : decode cX2_read 101 = .ok (.aload_n 0, 1) := by decide +kernel
theorem dX2_read_102 : decode cX2_read 102 = .ok (.aload_n 0, 1) := by decide +kernel
theorem dX2_read_103 : decode cX2_read 103 = .ok (.getfield 12, 3) := by decide +kernel
theorem dX2_read_106 : decode cX2_read 106 = .ok (.getfield 59, 3) := by decide +kernel
theorem dX2_read_109 : decode cX2_read 109 = .ok (.invokevirtual 65, 3) := by decide +kernel
theorem dX2_read_112 : decode cX2_read 112 = .ok (.aload_n 0, 1) := by decide +kernel
theorem dX2_read_113 : decode cX2_read 113 = .ok (.getfield 39, 3) := by decide +kernel
theorem dX2_read_116 : decode cX2_read 116 = .ok (.iconst 0, 1) := by decide +kernel
theorem dX2_read_117 : decode cX2_read 117 = .ok (.laload, 1) := by decide +kernel
theorem dX2_read_118 : decode cX2_read 118 = .ok (.lconst 1, 1) := by decide +kernel
theorem dX2_read_119 : decode cX2_read 119 = .ok (.lcmp, 1) := by decide +kernel
theorem dX2_read_120 : decode cX2_read 120 = .ok (.ifCond .lt 16, 3) := by decide +kernel
theorem dX2_read_123 : decode cX2_read 123 = .ok (.aload_n 0, 1) := by decide +kernel
theorem dX2_read_124 : decode cX2_read 124 = .ok (.getfield 39, 3) := by decide +kernel
theorem dX2_read_127 : decode cX2_read 127 = .ok (.iconst 0, 1) := by decide +kernel
theorem dX2_read_128 : decode cX2_read 128 = .ok (.laload, 1) := by decide +kernel
theorem dX2_read_129 : decode cX2_read 129 = .ok (.ldc2_w 69, 3) := by decide +kernel
theorem dX2_read_132 : decode cX2_read 132 = .ok (.lcmp, 1) := by decide +kernel
theorem dX2_read_133 : decode cX2_read 133 = .ok (.ifCond .le 8, 3) := by decide +kernel
theorem dX2_read_136 : decode cX2_read 136 = .ok (.aload_n 0, 1) := by decide +kernel
theorem dX2_read_137 : decode cX2_read 137 = .ok (.iload_n 1, 1) := by decide +kernel
theorem dX2_read_138 : decode cX2_read 138 = .ok (.invokevirtual 65, 3) := by decide +kernel
theorem dX2_read_141 : decode cX2_read 141 = .ok (.aload_n 0, 1) := by decide +kernel
theorem dX2_read_142 : decode cX2_read 142 = .ok (.getfield 21, 3) := by decide +kernel
theorem dX2_read_145 : decode cX2_read 145 = .ok (.aload_n 0, 1) := by decide +kernel
theorem dX2_read_146 : decode cX2_read 146 = .ok (.getfield 39, 3) := by decide +kernel
theorem dX2_read_149 : decode cX2_read 149 = .ok (.iconst 0, 1) := by decide +kernel
theorem dX2_read_150 : decode cX2_read 150 = .ok (.laload, 1) := by decide +kernel
theorem dX2_read_151 : decode cX2_read 151 = .ok (.putfield 71, 3) := by decide +kernel
theorem dX2_read_154 : decode cX2_read 154 = .ok (.aload_n 0, 1) := by decide +kernel
theorem dX2_read_155 : decode cX2_read 155 = .ok (.getfield 12, 3) := by decide +kernel
theorem dX2_read_158 : decode cX2_read 158 = .ok (.invokevirtual 74, 3) := by decide +kernel
theorem dX2_read_161 : decode cX2_read 161 = .ok (.aload_n 0, 1) := by decide +kernel
theorem dX2_read_162 : decode cX2_read 162 = .ok (.getfield 29, 3) := by decide +kernel
theorem dX2_read_165 : decode cX2_read 165 = .ok (.ireturn, 1) := by decide +kernel
set_option maxRecDepth 20000 in
theorem ggX2_readItem_X5_charOf : GoodIn wsX2_readItem wsX5_charOf := goodIn_r _ [7, 8, 9, 104, 105] (by decide +kernel) (by decide +kernel)
set_option maxRecDepth 20000 in
theorem gX2_readItem_X5_charOf : GoodIn wsX2_readItem (wsV RX2 75 RX5 yX5_charOf wsX5_charOf) := goodIn_app (goodIn_of _ (by decide +kernel)) ggX2_readItem_X5_charOf
set_option maxRecDepth 20000 in
theorem ggX2_readItem_X2_readPick : GoodIn wsX2_readItem wsX2_readPick := goodIn_r _ [14, 2, 15, 16, 17, 18, 13, 19, 1, 20, 21, 22, 23, 24, 3, 4, 5, 6, 7, 8, 9, 25, 26, 27, 28, 29, 30, 31, 32, 33, 34, 35, 36, 37, 38, 39, 40, 41, 42, 43, 44, 45, 46, 47, 48, 49, 50, 95, 96, 97, 98, 99, 100, 101, 102, 103, 104, 105, 106, 107, 108, 109, 110, 111, 112, 113, 114, 115, 116] (by decide +kernel) (by decide +kernel)
set_option maxRecDepth 20000 in
theorem gX2_readItem_X2_readPick : GoodIn wsX2_readItem (wsV RX2 78 RX2 yX2_readPick wsX2_readPick) := goodIn_app (goodIn_of _ (by decide +kernel)) ggX2_readItem_X2_readPick
set_option maxRecDepth 20000 in
theorem ggX2_readItem_X2_readCarrier : GoodIn wsX2_readItem wsX2_readCarrier := goodIn_r _ [54, 2, 15, 55, 46, 16, 17, 18, 13, 19, 1, 20, 21, 22, 23, 24, 3, 4, 5, 6, 7, 8, 9, 25, 26, 27, 28, 29, 30, 31, 32, 33, 34, 35, 36, 37, 38, 39, 40, 95, 96, 97, 98, 99, 100, 101, 102, 103, 104, 105, 106, 107, 108, 109, 110, 111, 112, 113, 114, 115, 116] (by decide +kernel) (by decide +kernel)
set_option maxRecDepth 20000 in
theorem gX2_readItem_X2_readCarrier : GoodIn wsX2_readItem (wsV RX2 81 RX2 yX2_readCarrier wsX2_readCarrier) := goodIn_app (goodIn_of _ (by decide +kernel)) ggX2_readItem_X2_readCarrier
set_option maxRecDepth 20000 in
theorem ggX2_readItem_X2_readDensity : GoodIn wsX2_readItem wsX2_readDensity := goodIn_r _ [59, 2, 15, 60, 46, 16, 17, 18, 13, 19, 1, 20, 21, 22, 23, 24, 3, 4, 5, 6, 7, 8, 9, 25, 26, 27, 28, 29, 30, 31, 32, 61, 62, 63, 64, 33, 34, 35, 36, 37, 38, 39, 40, 95, 96, 97, 98, 99, 100, 101, 102, 103, 104, 105, 106, 107, 108, 109, 110, 111, 112, 113, 114, 115, 116] (by decide +kernel) (by decide +kernel)
set_option maxRecDepth 20000 in
theorem gX2_readItem_X2_readDensity : GoodIn wsX2_readItem (wsV RX2 84 RX2 yX2_readDensity wsX2_readDensity) := goodIn_app (goodIn_of _ (by decide +kernel)) ggX2_readItem_X2_readDensity
set_option maxRecDepth 20000 in
theorem ggX2_readItem_X2_readRepeat : GoodIn wsX2_readItem wsX2_readRepeat := goodIn_r _ [68, 2, 16, 17, 18, 13, 19, 1, 20, 21, 22, 23, 24, 3, 4, 5, 6, 7, 8, 9, 25, 26, 27, 28, 29, 30, 31, 32, 69, 70, 71, 72, 46, 73, 15, 74, 75, 76, 77, 78, 79, 80, 81, 82, 45, 55, 60, 33, 34, 35, 36, 37, 38, 39, 40, 95, 96, 97, 98, 99, 100, 101, 102, 103, 104, 105, 106, 107, 108, 109, 110, 111, 112, 113, 114, 115, 116] (by decide +kernel) (by decide +kernel)
set_option maxRecDepth 20000 in
theorem gX2_readItem_X2_readRepeat : GoodIn wsX2_readItem (wsV RX2 87 RX2 yX2_readRepeat wsX2_readRepeat) := goodIn_app (goodIn_of _ (by decide +kernel)) ggX2_readItem_X2_readRepeat
set_option maxRecDepth 20000 in
theorem ggX2_readItem_X2_open : GoodIn wsX2_readItem wsX2_open := goodIn_r _ [72, 1, 2, 46, 73, 15, 74, 75, 76, 6, 77, 78, 4, 5, 7, 8, 9, 3, 28, 29, 30, 13, 31, 32, 79, 80, 81, 82, 45, 55, 60, 33, 34, 35, 36, 37, 38, 39, 40, 95, 96, 97, 98, 99, 100, 101, 102, 103, 106, 107, 108, 109, 110, 111, 112, 113, 114, 115, 116, 104, 105] (by decide +kernel) (by decide +kernel)
set_option maxRecDepth 20000 in
theorem gX2_readItem_X2_open : GoodIn wsX2_readItem (wsV RX2 90 RX2 yX2_open wsX2_open) := goodIn_app (goodIn_of _ (by decide +kernel)) ggX2_readItem_X2_open
set_option maxRecDepth 20000 in
theorem ggX2_readItem_X2_close : GoodIn wsX2_readItem wsX2_close := goodIn_r _ [86, 46, 45, 2, 55, 60, 15, 73, 28, 29, 30, 13, 31, 32, 87, 88, 89, 36, 90, 38, 91, 92, 93, 94, 40, 41, 42, 43, 44, 47, 48, 49, 23, 50, 95, 96, 97, 98, 99, 100, 101, 102, 103, 106, 107, 108, 109, 110, 111, 112, 113, 114, 115, 116] (by decide +kernel) (by decide +kernel)
set_option maxRecDepth 20000 in
theorem gX2_readItem_X2_close : GoodIn wsX2_readItem (wsV RX2 94 RX2 yX2_close wsX2_close) := goodIn_app (goodIn_of _ (by decide +kernel)) ggX2_readItem_X2_close
set_option maxRecDepth 20000 in
theorem ggX2_readItem_X2_faultAt : GoodIn wsX2_readItem wsX2_faultAt := goodIn_r _ [31, 32, 95, 96, 97, 98, 99, 100, 101, 102, 103] (by decide +kernel) (by decide +kernel)
set_option maxRecDepth 20000 in
theorem gX2_readItem_X2_faultAt : GoodIn wsX2_readItem (wsV RX2 65 RX2 yX2_faultAt wsX2_faultAt) := goodIn_app (goodIn_of _ (by decide +kernel)) ggX2_readItem_X2_faultAt
theorem dX2_readItem_0 : decode cX2_readItem 0 = .ok (.aload_n 0, 1) := by decide +kernel
theorem dX2_readItem_1 : decode cX2_readItem 1 = .ok (.getfield 12, 3) := by decide +kernel
theorem dX2_readItem_4 : decode cX2_readItem 4 = .ok (.aload_n 0, 1) := by decide +kernel
theorem dX2_readItem_5 : decode cX2_readItem 5 = .ok (.getfield 25, 3) := by decide +kernel
theorem dX2_readItem_8 : decode cX2_readItem 8 = .ok (.invokevirtual 75, 3) := by decide +kernel
theorem dX2_readItem_11 : decode cX2_readItem 11 = .ok (.lookupswitch 111 #[(41, 104), (99, 64), (100, 71), (104, 57), (109, 85), (114, 78)], 57) := by decide +kernel
theorem dX2_readItem_68 : decode cX2_readItem 68 = .ok (.aload_n 0, 1) := by decide +kernel
theorem dX2_readItem_69 : decode cX2_readItem 69 = .ok (.invokevirtual 78, 3) := by decide +kernel
theorem dX2_readItem_72 : decode cX2_readItem 72 = .ok (.goto 58, 3) := by decide +kernel
theorem dX2_readItem_75 : decode cX2_readItem 75 = .ok (.aload_n 0, 1) := by decide +kernel
theorem dX2_readItem_76 : decode cX2_readItem 76 = .ok (.invokevirtual 81, 3) := by decide +kernel
theorem dX2_readItem_79 : decode cX2_readItem 79 = .ok (.goto 51, 3) := by decide +kernel
theorem dX2_readItem_82 : decode cX2_readItem 82 = .ok (.aload_n 0, 1) := by decide +kernel
theorem dX2_readItem_83 : decode cX2_readItem 83 = .ok (.invokevirtual 84, 3) := by decide +kernel
theorem dX2_readItem_86 : decode cX2_readItem 86 = .ok (.goto 44, 3) := by decide +kernel
theorem dX2_readItem_89 : decode cX2_readItem 89 = .ok (.aload_n 0, 1) := by decide +kernel
theorem dX2_readItem_90 : decode cX2_readItem 90 = .ok (.invokevirtual 87, 3) := by decide +kernel
theorem dX2_readItem_93 : decode cX2_readItem 93 = .ok (.goto 37, 3) := by decide +kernel
theorem dX2_readItem_96 : decode cX2_readItem 96 = .ok (.aload_n 0, 1) := by decide +kernel
theorem dX2_readItem_97 : decode cX2_readItem 97 = .ok (.dup, 1) := by decide +kernel
theorem dX2_readItem_98 : decode cX2_readItem 98 = .ok (.getfield 25, 3) := by decide +kernel
theorem dX2_readItem_101 : decode cX2_readItem 101 = .ok (.iconst 1, 1) := by decide +kernel
theorem dX2_readItem_102 : decode cX2_readItem 102 = .ok (.iadd, 1) := by decide +kernel
theorem dX2_readItem_103 : decode cX2_readItem 103 = .ok (.putfield 25, 3) := by decide +kernel
theorem dX2_readItem_106 : decode cX2_readItem 106 = .ok (.aload_n 0, 1) := by decide +kernel
theorem dX2_readItem_107 : decode cX2_readItem 107 = .ok (.iconst 4, 1) := by decide +kernel
theorem dX2_readItem_108 : decode cX2_readItem 108 = .ok (.iconst 2, 1) := by decide +kernel
theorem dX2_readItem_109 : decode cX2_readItem 109 = .ok (.invokevirtual 90, 3) := by decide +kernel
theorem dX2_readItem_112 : decode cX2_readItem 112 = .ok (.goto 18, 3) := by decide +kernel
theorem dX2_readItem_115 : decode cX2_readItem 115 = .ok (.aload_n 0, 1) := by decide +kernel
theorem dX2_readItem_116 : decode cX2_readItem 116 = .ok (.invokevirtual 94, 3) := by decide +kernel
theorem dX2_readItem_119 : decode cX2_readItem 119 = .ok (.goto 11, 3) := by decide +kernel
theorem dX2_readItem_122 : decode cX2_readItem 122 = .ok (.aload_n 0, 1) := by decide +kernel
theorem dX2_readItem_123 : decode cX2_readItem 123 = .ok (.aload_n 0, 1) := by decide +kernel
theorem dX2_readItem_124 : decode cX2_readItem 124 = .ok (.getfield 25, 3) := by decide +kernel
theorem dX2_readItem_127 : decode cX2_readItem 127 = .ok (.invokevirtual 65, 3) := by decide +kernel
theorem dX2_readItem_130 : decode cX2_readItem 130 = .ok (.return_, 1) := by decide +kernel
set_option maxRecDepth 20000 in
theorem ggX2_readPick_X2_readDigits : GoodIn wsX2_readPick wsX2_readDigits := goodIn_r _ [7, 1, 8, 9, 10, 11, 12, 13, 14, 15, 16, 17, 18, 19, 20, 21, 22, 6, 23, 24, 25, 26, 27, 28, 47, 48, 49, 50, 51, 52, 53, 54, 55, 56, 57] (by decide +kernel) (by decide +kernel)
set_option maxRecDepth 20000 in
theorem gX2_readPick_X2_readDigits : GoodIn wsX2_readPick (wsV RX2 97 RX2 yX2_readDigits wsX2_readDigits) := goodIn_app (goodIn_of _ (by decide +kernel)) ggX2_readPick_X2_readDigits
set_option maxRecDepth 20000 in
theorem ggX2_readPick_X1_add : GoodIn wsX2_readPick wsX1_add := goodIn_r _ [33, 34, 35, 36, 58, 59, 60, 61, 62, 63, 64, 65, 66, 67, 68] (by decide +kernel) (by decide +kernel)
set_option maxRecDepth 20000 in
theorem gX2_readPick_X1_add : GoodIn wsX2_readPick (wsV RX2 101 RX1 yX1_add wsX1_add) := goodIn_app (goodIn_of _ (by decide +kernel)) ggX2_readPick_X1_add
set_option maxRecDepth 20000 in
theorem ggX2_readPick_X2_addPicks : GoodIn wsX2_readPick wsX2_addPicks := goodIn_r _ [40, 41, 42, 43, 44, 45, 12, 46, 47, 48, 49, 50, 51, 52, 53, 54, 55] (by decide +kernel) (by decide +kernel)
set_option maxRecDepth 20000 in
theorem gX2_readPick_X2_addPicks : GoodIn wsX2_readPick (wsV RX2 104 RX2 yX2_addPicks wsX2_addPicks) := goodIn_app (goodIn_of _ (by decide +kernel)) ggX2_readPick_X2_addPicks
theorem dX2_readPick_0 : decode cX2_readPick 0 = .ok (.aload_n 0, 1) := by decide +kernel
theorem dX2_readPick_1 : decode cX2_readPick 1 = .ok (.dup, 1) := by decide +kernel
theorem dX2_readPick_2 : decode cX2_readPick 2 = .ok (.getfield 25, 3) := by decide +kernel
theorem dX2_readPick_5 : decode cX2_readPick 5 = .ok (.iconst 1, 1) := by decide +kernel
theorem dX2_readPick_6 : decode cX2_readPick 6 = .ok (.iadd, 1) := by decide +kernel
theorem dX2_readPick_7 : decode cX2_readPick 7 = .ok (.putfield 25, 3) := by decide +kernel
theorem dX2_readPick_10 : decode cX2_readPick 10 = .ok (.aload_n 0, 1) := by decide +kernel
theorem dX2_readPick_11 : decode cX2_readPick 11 = .ok (.getfield 21, 3) := by decide +kernel
theorem dX2_readPick_14 : decode cX2_readPick 14 = .ok (.iconst 0, 1) := by decide +kernel
theorem dX2_readPick_15 : decode cX2_readPick 15 = .ok (.aload_n 0, 1) := by decide +kernel
theorem dX2_readPick_16 : decode cX2_readPick 16 = .ok (.bipush 16, 2) := by decide +kernel
theorem dX2_readPick_18 : decode cX2_readPick 18 = .ok (.bipush 6, 2) := by decide +kernel
theorem dX2_readPick_20 : decode cX2_readPick 20 = .ok (.invokevirtual 97, 3) := by decide +kernel
theorem dX2_readPick_23 : decode cX2_readPick 23 = .ok (.invokevirtual 101, 3) := by decide +kernel
theorem dX2_readPick_26 : decode cX2_readPick 26 = .ok (.aload_n 0, 1) := by decide +kernel
theorem dX2_readPick_27 : decode cX2_readPick 27 = .ok (.lconst 1, 1) := by decide +kernel
theorem dX2_readPick_28 : decode cX2_readPick 28 = .ok (.invokevirtual 104, 3) := by decide +kernel
theorem dX2_readPick_31 : decode cX2_readPick 31 = .ok (.return_, 1) := by decide +kernel
set_option maxRecDepth 20000 in
theorem ggX2_readCarrier_X2_readDigits : GoodIn wsX2_readCarrier wsX2_readDigits := goodIn_r _ [9, 1, 10, 11, 12, 13, 14, 15, 16, 17, 18, 19, 20, 21, 22, 23, 24, 8, 25, 26, 27, 28, 29, 30, 39, 40, 41, 42, 43, 44, 45, 46, 47, 48, 49] (by decide +kernel) (by decide +kernel)
set_option maxRecDepth 20000 in
theorem gX2_readCarrier_X2_readDigits : GoodIn wsX2_readCarrier (wsV RX2 97 RX2 yX2_readDigits wsX2_readDigits) := goodIn_app (goodIn_of _ (by decide +kernel)) ggX2_readCarrier_X2_readDigits
set_option maxRecDepth 20000 in
theorem ggX2_readCarrier_X1_add : GoodIn wsX2_readCarrier wsX1_add := goodIn_r _ [35, 36, 37, 38, 50, 51, 52, 53, 54, 55, 56, 57, 58, 59, 60] (by decide +kernel) (by decide +kernel)
set_option maxRecDepth 20000 in
theorem gX2_readCarrier_X1_add : GoodIn wsX2_readCarrier (wsV RX2 101 RX1 yX1_add wsX1_add) := goodIn_app (goodIn_of _ (by decide +kernel)) ggX2_readCarrier_X1_add
theorem dX2_readCarrier_0 : decode cX2_readCarrier 0 = .ok (.aload_n 0, 1) := by decide +kernel
theorem dX2_readCarrier_1 : decode cX2_readCarrier 1 = .ok (.dup, 1) := by decide +kernel
theorem dX2_readCarrier_2 : decode cX2_readCarrier 2 = .ok (.getfield 25, 3) := by decide +kernel
theorem dX2_readCarrier_5 : decode cX2_readCarrier 5 = .ok (.iconst 1, 1) := by decide +kernel
theorem dX2_readCarrier_6 : decode cX2_readCarrier 6 = .ok (.iadd, 1) := by decide +kernel
theorem dX2_readCarrier_7 : decode cX2_readCarrier 7 = .ok (.putfield 25, 3) := by decide +kernel
theorem dX2_readCarrier_10 : decode cX2_readCarrier 10 = .ok (.aload_n 0, 1) := by decide +kernel
theorem dX2_readCarrier_11 : decode cX2_readCarrier 11 = .ok (.bipush 8, 2) := by decide +kernel
theorem dX2_readCarrier_13 : decode cX2_readCarrier 13 = .ok (.iconst 1, 1) := by decide +kernel
theorem dX2_readCarrier_14 : decode cX2_readCarrier 14 = .ok (.invokevirtual 97, 3) := by decide +kernel
theorem dX2_readCarrier_17 : decode cX2_readCarrier 17 = .ok (.istore_n 1, 1) := by decide +kernel
theorem dX2_readCarrier_18 : decode cX2_readCarrier 18 = .ok (.aload_n 0, 1) := by decide +kernel
theorem dX2_readCarrier_19 : decode cX2_readCarrier 19 = .ok (.getfield 21, 3) := by decide +kernel
theorem dX2_readCarrier_22 : decode cX2_readCarrier 22 = .ok (.iconst 1, 1) := by decide +kernel
theorem dX2_readCarrier_23 : decode cX2_readCarrier 23 = .ok (.iload_n 1, 1) := by decide +kernel
theorem dX2_readCarrier_24 : decode cX2_readCarrier 24 = .ok (.invokevirtual 101, 3) := by decide +kernel
theorem dX2_readCarrier_27 : decode cX2_readCarrier 27 = .ok (.aload_n 0, 1) := by decide +kernel
theorem dX2_readCarrier_28 : decode cX2_readCarrier 28 = .ok (.getfield 43, 3) := by decide +kernel
theorem dX2_readCarrier_31 : decode cX2_readCarrier 31 = .ok (.aload_n 0, 1) := by decide +kernel
theorem dX2_readCarrier_32 : decode cX2_readCarrier 32 = .ok (.getfield 32, 3) := by decide +kernel
theorem dX2_readCarrier_35 : decode cX2_readCarrier 35 = .ok (.iload_n 1, 1) := by decide +kernel
theorem dX2_readCarrier_36 : decode cX2_readCarrier 36 = .ok (.iastore, 1) := by decide +kernel
theorem dX2_readCarrier_37 : decode cX2_readCarrier 37 = .ok (.return_, 1) := by decide +kernel
set_option maxRecDepth 20000 in
theorem ggX2_readDensity_X2_readDigits : GoodIn wsX2_readDensity wsX2_readDigits := goodIn_r _ [9, 1, 10, 11, 12, 13, 14, 15, 16, 17, 18, 19, 20, 21, 22, 23, 24, 8, 25, 26, 27, 28, 29, 30, 43, 44, 45, 46, 47, 48, 49, 50, 51, 52, 53] (by decide +kernel) (by decide +kernel)
set_option maxRecDepth 20000 in
theorem gX2_readDensity_X2_readDigits : GoodIn wsX2_readDensity (wsV RX2 97 RX2 yX2_readDigits wsX2_readDigits) := goodIn_app (goodIn_of _ (by decide +kernel)) ggX2_readDensity_X2_readDigits
set_option maxRecDepth 20000 in
theorem ggX2_readDensity_X2_isAllowed : GoodIn wsX2_readDensity wsX2_isAllowed := goodIn_r _ [33, 34] (by decide +kernel) (by decide +kernel)
set_option maxRecDepth 20000 in
theorem gX2_readDensity_X2_isAllowed : GoodIn wsX2_readDensity (va_wsS RX2 108 yX2_isAllowed wsX2_isAllowed) := goodIn_app (goodIn_of _ (by decide +kernel)) ggX2_readDensity_X2_isAllowed
set_option maxRecDepth 20000 in
theorem ggX2_readDensity_X2_faultAt : GoodIn wsX2_readDensity wsX2_faultAt := goodIn_r _ [29, 30, 43, 44, 45, 46, 47, 48, 49, 50, 51] (by decide +kernel) (by decide +kernel)
set_option maxRecDepth 20000 in
theorem gX2_readDensity_X2_faultAt : GoodIn wsX2_readDensity (wsV RX2 65 RX2 yX2_faultAt wsX2_faultAt) := goodIn_app (goodIn_of _ (by decide +kernel)) ggX2_readDensity_X2_faultAt
set_option maxRecDepth 20000 in
theorem ggX2_readDensity_X1_add : GoodIn wsX2_readDensity wsX1_add := goodIn_r _ [39, 40, 41, 42, 54, 55, 56, 57, 58, 59, 60, 61, 62, 63, 64] (by decide +kernel) (by decide +kernel)
set_option maxRecDepth 20000 in
theorem gX2_readDensity_X1_add : GoodIn wsX2_readDensity (wsV RX2 101 RX1 yX1_add wsX1_add) := goodIn_app (goodIn_of _ (by decide +kernel)) ggX2_readDensity_X1_add
theorem dX2_readDensity_0 : decode cX2_readDensity 0 = .ok (.aload_n 0, 1) := by decide +kernel
theorem dX2_readDensity_1 : decode cX2_readDensity 1 = .ok (.dup, 1) := by decide +kernel
theorem dX2_readDensity_2 : decode cX2_readDensity 2 = .ok (.getfield 25, 3) := by decide +kernel
theorem dX2_readDensity_5 : decode cX2_readDensity 5 = .ok (.iconst 1, 1) := by decide +kernel
theorem dX2_readDensity_6 : decode cX2_readDensity 6 = .ok (.iadd, 1) := by decide +kernel
theorem dX2_readDensity_7 : decode cX2_readDensity 7 = .ok (.putfield 25, 3) := by decide +kernel
theorem dX2_readDensity_10 : decode cX2_readDensity 10 = .ok (.aload_n 0, 1) := by decide +kernel
theorem dX2_readDensity_11 : decode cX2_readDensity 11 = .ok (.getfield 25, 3) := by decide +kernel
theorem dX2_readDensity_14 : decode cX2_readDensity 14 = .ok (.istore_n 1, 1) := by decide +kernel
theorem dX2_readDensity_15 : decode cX2_readDensity 15 = .ok (.aload_n 0, 1) := by decide +kernel
theorem dX2_readDensity_16 : decode cX2_readDensity 16 = .ok (.bipush 10, 2) := by decide +kernel
theorem dX2_readDensity_18 : decode cX2_readDensity 18 = .ok (.sipush 160, 3) := by decide +kernel
theorem dX2_readDensity_21 : decode cX2_readDensity 21 = .ok (.invokevirtual 97, 3) := by decide +kernel
theorem dX2_readDensity_24 : decode cX2_readDensity 24 = .ok (.istore_n 2, 1) := by decide +kernel
theorem dX2_readDensity_25 : decode cX2_readDensity 25 = .ok (.iload_n 2, 1) := by decide +kernel
theorem dX2_readDensity_26 : decode cX2_readDensity 26 = .ok (.invokestatic 108, 3) := by decide +kernel
theorem dX2_readDensity_29 : decode cX2_readDensity 29 = .ok (.ifCond .ne 8, 3) := by decide +kernel
theorem dX2_readDensity_32 : decode cX2_readDensity 32 = .ok (.aload_n 0, 1) := by decide +kernel
theorem dX2_readDensity_33 : decode cX2_readDensity 33 = .ok (.iload_n 1, 1) := by decide +kernel
theorem dX2_readDensity_34 : decode cX2_readDensity 34 = .ok (.invokevirtual 65, 3) := by decide +kernel
theorem dX2_readDensity_37 : decode cX2_readDensity 37 = .ok (.aload_n 0, 1) := by decide +kernel
theorem dX2_readDensity_38 : decode cX2_readDensity 38 = .ok (.getfield 21, 3) := by decide +kernel
theorem dX2_readDensity_41 : decode cX2_readDensity 41 = .ok (.iconst 2, 1) := by decide +kernel
theorem dX2_readDensity_42 : decode cX2_readDensity 42 = .ok (.iload_n 2, 1) := by decide +kernel
theorem dX2_readDensity_43 : decode cX2_readDensity 43 = .ok (.invokevirtual 101, 3) := by decide +kernel
theorem dX2_readDensity_46 : decode cX2_readDensity 46 = .ok (.aload_n 0, 1) := by decide +kernel
theorem dX2_readDensity_47 : decode cX2_readDensity 47 = .ok (.getfield 46, 3) := by decide +kernel
theorem dX2_readDensity_50 : decode cX2_readDensity 50 = .ok (.aload_n 0, 1) := by decide +kernel
theorem dX2_readDensity_51 : decode cX2_readDensity 51 = .ok (.getfield 32, 3) := by decide +kernel
theorem dX2_readDensity_54 : decode cX2_readDensity 54 = .ok (.iload_n 2, 1) := by decide +kernel
theorem dX2_readDensity_55 : decode cX2_readDensity 55 = .ok (.iastore, 1) := by decide +kernel
theorem dX2_readDensity_56 : decode cX2_readDensity 56 = .ok (.return_, 1) := by decide +kernel
set_option maxRecDepth 20000 in
theorem ggX2_readRepeat_X2_readDigits : GoodIn wsX2_readRepeat wsX2_readDigits := goodIn_r _ [6, 1, 7, 8, 9, 10, 11, 12, 13, 14, 15, 16, 17, 18, 19, 20, 21, 5, 22, 23, 24, 25, 26, 27, 55, 56, 57, 58, 59, 60, 61, 62, 63, 64, 65] (by decide +kernel) (by decide +kernel)
set_option maxRecDepth 20000 in
theorem gX2_readRepeat_X2_readDigits : GoodIn wsX2_readRepeat (wsV RX2 97 RX2 yX2_readDigits wsX2_readDigits) := goodIn_app (goodIn_of _ (by decide +kernel)) ggX2_readRepeat_X2_readDigits
set_option maxRecDepth 20000 in
theorem ggX2_readRepeat_X2_faultAt : GoodIn wsX2_readRepeat wsX2_faultAt := goodIn_r _ [26, 27, 55, 56, 57, 58, 59, 60, 61, 62, 63] (by decide +kernel) (by decide +kernel)
set_option maxRecDepth 20000 in
theorem gX2_readRepeat_X2_faultAt : GoodIn wsX2_readRepeat (wsV RX2 65 RX2 yX2_faultAt wsX2_faultAt) := goodIn_app (goodIn_of _ (by decide +kernel)) ggX2_readRepeat_X2_faultAt
set_option maxRecDepth 20000 in
theorem ggX2_readRepeat_X2_open : GoodIn wsX2_readRepeat wsX2_open := goodIn_r _ [31, 7, 1, 32, 33, 34, 35, 36, 37, 16, 38, 39, 14, 15, 17, 18, 19, 13, 23, 24, 25, 5, 26, 27, 40, 41, 42, 43, 44, 45, 46, 47, 48, 49, 50, 51, 52, 53, 54, 55, 56, 57, 58, 59, 60, 61, 62, 63, 66, 67, 68, 69, 70, 71, 72, 73, 74, 75, 76, 64, 65] (by decide +kernel) (by decide +kernel)
set_option maxRecDepth 20000 in
theorem gX2_readRepeat_X2_open : GoodIn wsX2_readRepeat (wsV RX2 90 RX2 yX2_open wsX2_open) := goodIn_app (goodIn_of _ (by decide +kernel)) ggX2_readRepeat_X2_open
theorem dX2_readRepeat_0 : decode cX2_readRepeat 0 = .ok (.aload_n 0, 1) := by decide +kernel
theorem dX2_readRepeat_1 : decode cX2_readRepeat 1 = .ok (.dup, 1) := by decide +kernel
theorem dX2_readRepeat_2 : decode cX2_readRepeat 2 = .ok (.getfield 25, 3) := by decide +kernel
theorem dX2_readRepeat_5 : decode cX2_readRepeat 5 = .ok (.iconst 1, 1) := by decide +kernel
theorem dX2_readRepeat_6 : decode cX2_readRepeat 6 = .ok (.iadd, 1) := by decide +kernel
theorem dX2_readRepeat_7 : decode cX2_readRepeat 7 = .ok (.putfield 25, 3) := by decide +kernel
theorem dX2_readRepeat_10 : decode cX2_readRepeat 10 = .ok (.aload_n 0, 1) := by decide +kernel
theorem dX2_readRepeat_11 : decode cX2_readRepeat 11 = .ok (.getfield 25, 3) := by decide +kernel
theorem dX2_readRepeat_14 : decode cX2_readRepeat 14 = .ok (.istore_n 1, 1) := by decide +kernel
theorem dX2_readRepeat_15 : decode cX2_readRepeat 15 = .ok (.aload_n 0, 1) := by decide +kernel
theorem dX2_readRepeat_16 : decode cX2_readRepeat 16 = .ok (.bipush 10, 2) := by decide +kernel
theorem dX2_readRepeat_18 : decode cX2_readRepeat 18 = .ok (.iconst 4, 1) := by decide +kernel
theorem dX2_readRepeat_19 : decode cX2_readRepeat 19 = .ok (.invokevirtual 97, 3) := by decide +kernel
theorem dX2_readRepeat_22 : decode cX2_readRepeat 22 = .ok (.istore_n 2, 1) := by decide +kernel
theorem dX2_readRepeat_23 : decode cX2_readRepeat 23 = .ok (.iload_n 2, 1) := by decide +kernel
theorem dX2_readRepeat_24 : decode cX2_readRepeat 24 = .ok (.ifCond .ne 8, 3) := by decide +kernel
theorem dX2_readRepeat_27 : decode cX2_readRepeat 27 = .ok (.aload_n 0, 1) := by decide +kernel
theorem dX2_readRepeat_28 : decode cX2_readRepeat 28 = .ok (.iload_n 1, 1) := by decide +kernel
theorem dX2_readRepeat_29 : decode cX2_readRepeat 29 = .ok (.invokevirtual 65, 3) := by decide +kernel
theorem dX2_readRepeat_32 : decode cX2_readRepeat 32 = .ok (.aload_n 0, 1) := by decide +kernel
theorem dX2_readRepeat_33 : decode cX2_readRepeat 33 = .ok (.iconst 3, 1) := by decide +kernel
theorem dX2_readRepeat_34 : decode cX2_readRepeat 34 = .ok (.iload_n 2, 1) := by decide +kernel
theorem dX2_readRepeat_35 : decode cX2_readRepeat 35 = .ok (.invokevirtual 90, 3) := by decide +kernel
theorem dX2_readRepeat_38 : decode cX2_readRepeat 38 = .ok (.return_, 1) := by decide +kernel
set_option maxRecDepth 20000 in
theorem ggX2_open_X5_behindBlanks : GoodIn wsX2_open wsX5_behindBlanks := goodIn_r _ [10, 11, 12, 13, 9, 14, 15, 16, 59, 60] (by decide +kernel) (by decide +kernel)
set_option maxRecDepth 20000 in
theorem gX2_open_X5_behindBlanks : GoodIn wsX2_open (wsV RX2 52 RX5 yX5_behindBlanks wsX5_behindBlanks) := goodIn_app (goodIn_of _ (by decide +kernel)) ggX2_open_X5_behindBlanks
set_option maxRecDepth 20000 in
theorem ggX2_open_X5_charOf : GoodIn wsX2_open wsX5_charOf := goodIn_r _ [14, 15, 16, 59, 60] (by decide +kernel) (by decide +kernel)
set_option maxRecDepth 20000 in
theorem gX2_open_X5_charOf : GoodIn wsX2_open (wsV RX2 75 RX5 yX5_charOf wsX5_charOf) := goodIn_app (goodIn_of _ (by decide +kernel)) ggX2_open_X5_charOf
set_option maxRecDepth 20000 in
theorem ggX2_open_X2_faultAt : GoodIn wsX2_open wsX2_faultAt := goodIn_r _ [22, 23, 39, 40, 41, 42, 43, 44, 45, 46, 47] (by decide +kernel) (by decide +kernel)
set_option maxRecDepth 20000 in
theorem gX2_open_X2_faultAt : GoodIn wsX2_open (wsV RX2 65 RX2 yX2_faultAt wsX2_faultAt) := goodIn_app (goodIn_of _ (by decide +kernel)) ggX2_open_X2_faultAt
set_option maxRecDepth 20000 in
theorem ggX2_open_X2_beginLevel : GoodIn wsX2_open wsX2_beginLevel := goodIn_r _ [27, 4, 3, 28, 29, 30, 39, 40, 41, 42, 43, 44, 45, 46, 47] (by decide +kernel) (by decide +kernel)
set_option maxRecDepth 20000 in
theorem gX2_open_X2_beginLevel : GoodIn wsX2_open (wsV RX2 56 RX2 yX2_beginLevel wsX2_beginLevel) := goodIn_app (goodIn_of _ (by decide +kernel)) ggX2_open_X2_beginLevel
set_option maxRecDepth 20000 in
theorem ggX2_open_X1_add : GoodIn wsX2_open wsX1_add := goodIn_r _ [35, 36, 37, 38, 48, 49, 50, 51, 52, 53, 54, 55, 56, 57, 58] (by decide +kernel) (by decide +kernel)
set_option maxRecDepth 20000 in
theorem gX2_open_X1_add : GoodIn wsX2_open (wsV RX2 101 RX1 yX1_add wsX1_add) := goodIn_app (goodIn_of _ (by decide +kernel)) ggX2_open_X1_add
theorem dX2_open_0 : decode cX2_open 0 = .ok (.aload_n 0, 1) := by decide +kernel
theorem dX2_open_1 : decode cX2_open 1 = .ok (.aload_n 0, 1) := by decide +kernel
theorem dX2_open_2 : decode cX2_open 2 = .ok (.getfield 12, 3) := by decide +kernel
theorem dX2_open_5 : decode cX2_open 5 = .ok (.aload_n 0, 1) := by decide +kernel
theorem dX2_open_6 : decode cX2_open 6 = .ok (.getfield 25, 3) := by decide +kernel
theorem dX2_open_9 : decode cX2_open 9 = .ok (.invokevirtual 52, 3) := by decide +kernel
theorem dX2_open_12 : decode cX2_open 12 = .ok (.putfield 25, 3) := by decide +kernel
theorem dX2_open_15 : decode cX2_open 15 = .ok (.aload_n 0, 1) := by decide +kernel
theorem dX2_open_16 : decode cX2_open 16 = .ok (.getfield 12, 3) := by decide +kernel
theorem dX2_open_19 : decode cX2_open 19 = .ok (.aload_n 0, 1) := by decide +kernel
theorem dX2_open_20 : decode cX2_open 20 = .ok (.getfield 25, 3) := by decide +kernel
theorem dX2_open_23 : decode cX2_open 23 = .ok (.invokevirtual 75, 3) := by decide +kernel
theorem dX2_open_26 : decode cX2_open 26 = .ok (.bipush 40, 2) := by decide +kernel
theorem dX2_open_28 : decode cX2_open 28 = .ok (.if_icmp .ne 12, 3) := by decide +kernel
theorem dX2_open_31 : decode cX2_open 31 = .ok (.aload_n 0, 1) := by decide +kernel
theorem dX2_open_32 : decode cX2_open 32 = .ok (.getfield 32, 3) := by decide +kernel
theorem dX2_open_35 : decode cX2_open 35 = .ok (.bipush 6, 2) := by decide +kernel
theorem dX2_open_37 : decode cX2_open 37 = .ok (.if_icmp .lt 12, 3) := by decide +kernel
theorem dX2_open_40 : decode cX2_open 40 = .ok (.aload_n 0, 1) := by decide +kernel
theorem dX2_open_41 : decode cX2_open 41 = .ok (.aload_n 0, 1) := by decide +kernel
theorem dX2_open_42 : decode cX2_open 42 = .ok (.getfield 25, 3) := by decide +kernel
theorem dX2_open_45 : decode cX2_open 45 = .ok (.invokevirtual 65, 3) := by decide +kernel
theorem dX2_open_48 : decode cX2_open 48 = .ok (.return_, 1) := by decide +kernel
theorem dX2_open_49 : decode cX2_open 49 = .ok (.aload_n 0, 1) := by decide +kernel
theorem dX2_open_50 : decode cX2_open 50 = .ok (.dup, 1) := by decide +kernel
theorem dX2_open_51 : decode cX2_open 51 = .ok (.getfield 25, 3) := by decide +kernel
theorem dX2_open_54 : decode cX2_open 54 = .ok (.iconst 1, 1) := by decide +kernel
theorem dX2_open_55 : decode cX2_open 55 = .ok (.iadd, 1) := by decide +kernel
theorem dX2_open_56 : decode cX2_open 56 = .ok (.putfield 25, 3) := by decide +kernel
theorem dX2_open_59 : decode cX2_open 59 = .ok (.aload_n 0, 1) := by decide +kernel
theorem dX2_open_60 : decode cX2_open 60 = .ok (.dup, 1) := by decide +kernel
theorem dX2_open_61 : decode cX2_open 61 = .ok (.getfield 32, 3) := by decide +kernel
theorem dX2_open_64 : decode cX2_open 64 = .ok (.iconst 1, 1) := by decide +kernel
theorem dX2_open_65 : decode cX2_open 65 = .ok (.iadd, 1) := by decide +kernel
theorem dX2_open_66 : decode cX2_open 66 = .ok (.putfield 32, 3) := by decide +kernel
theorem dX2_open_69 : decode cX2_open 69 = .ok (.aload_n 0, 1) := by decide +kernel
theorem dX2_open_70 : decode cX2_open 70 = .ok (.invokevirtual 56, 3) := by decide +kernel
theorem dX2_open_73 : decode cX2_open 73 = .ok (.aload_n 0, 1) := by decide +kernel
theorem dX2_open_74 : decode cX2_open 74 = .ok (.getfield 35, 3) := by decide +kernel
theorem dX2_open_77 : decode cX2_open 77 = .ok (.aload_n 0, 1) := by decide +kernel
theorem dX2_open_78 : decode cX2_open 78 = .ok (.getfield 32, 3) := by decide +kernel
theorem dX2_open_81 : decode cX2_open 81 = .ok (.aload_n 0, 1) := by decide +kernel
theorem dX2_open_82 : decode cX2_open 82 = .ok (.getfield 21, 3) := by decide +kernel
theorem dX2_open_85 : decode cX2_open 85 = .ok (.getfield 112, 3) := by decide +kernel
theorem dX2_open_88 : decode cX2_open 88 = .ok (.iastore, 1) := by decide +kernel
theorem dX2_open_89 : decode cX2_open 89 = .ok (.aload_n 0, 1) := by decide +kernel
theorem dX2_open_90 : decode cX2_open 90 = .ok (.getfield 21, 3) := by decide +kernel
theorem dX2_open_93 : decode cX2_open 93 = .ok (.iload_n 1, 1) := by decide +kernel
theorem dX2_open_94 : decode cX2_open 94 = .ok (.iload_n 2, 1) := by decide +kernel
theorem dX2_open_95 : decode cX2_open 95 = .ok (.invokevirtual 101, 3) := by decide +kernel
theorem dX2_open_98 : decode cX2_open 98 = .ok (.return_, 1) := by decide +kernel
set_option maxRecDepth 20000 in
theorem ggX2_close_X2_faultAt : GoodIn wsX2_close wsX2_faultAt := goodIn_r _ [12, 13, 34, 35, 36, 37, 38, 39, 40, 41, 42] (by decide +kernel) (by decide +kernel)
set_option maxRecDepth 20000 in
theorem gX2_close_X2_faultAt : GoodIn wsX2_close (wsV RX2 65 RX2 yX2_faultAt wsX2_faultAt) := goodIn_app (goodIn_of _ (by decide +kernel)) ggX2_close_X2_faultAt
set_option maxRecDepth 20000 in
theorem ggX2_close_X1_end : GoodIn wsX2_close wsX1_end := goodIn_r _ [18, 19, 20, 21, 22, 23, 24, 43, 44, 45, 46, 47, 48, 49, 50, 51, 52, 53] (by decide +kernel) (by decide +kernel)
set_option maxRecDepth 20000 in
theorem gX2_close_X1_end : GoodIn wsX2_close (wsV RX2 113 RX1 yX1_end wsX1_end) := goodIn_app (goodIn_of _ (by decide +kernel)) ggX2_close_X1_end
set_option maxRecDepth 20000 in
theorem ggX2_close_X2_addPicks : GoodIn wsX2_close wsX2_addPicks := goodIn_r _ [28, 2, 1, 29, 30, 31, 32, 33, 34, 35, 36, 37, 38, 39, 40, 41, 42] (by decide +kernel) (by decide +kernel)
set_option maxRecDepth 20000 in
theorem gX2_close_X2_addPicks : GoodIn wsX2_close (wsV RX2 104 RX2 yX2_addPicks wsX2_addPicks) := goodIn_app (goodIn_of _ (by decide +kernel)) ggX2_close_X2_addPicks
theorem dX2_close_0 : decode cX2_close 0 = .ok (.aload_n 0, 1) := by decide +kernel
theorem dX2_close_1 : decode cX2_close 1 = .ok (.getfield 32, 3) := by decide +kernel
theorem dX2_close_4 : decode cX2_close 4 = .ok (.ifCond .le 17, 3) := by decide +kernel
theorem dX2_close_7 : decode cX2_close 7 = .ok (.aload_n 0, 1) := by decide +kernel
theorem dX2_close_8 : decode cX2_close 8 = .ok (.getfield 39, 3) := by decide +kernel
theorem dX2_close_11 : decode cX2_close 11 = .ok (.aload_n 0, 1) := by decide +kernel
theorem dX2_close_12 : decode cX2_close 12 = .ok (.getfield 32, 3) := by decide +kernel
theorem dX2_close_15 : decode cX2_close 15 = .ok (.laload, 1) := by decide +kernel
theorem dX2_close_16 : decode cX2_close 16 = .ok (.lconst 0, 1) := by decide +kernel
theorem dX2_close_17 : decode cX2_close 17 = .ok (.lcmp, 1) := by decide +kernel
theorem dX2_close_18 : decode cX2_close 18 = .ok (.ifCond .ne 12, 3) := by decide +kernel
theorem dX2_close_21 : decode cX2_close 21 = .ok (.aload_n 0, 1) := by decide +kernel
theorem dX2_close_22 : decode cX2_close 22 = .ok (.aload_n 0, 1) := by decide +kernel
theorem dX2_close_23 : decode cX2_close 23 = .ok (.getfield 25, 3) := by decide +kernel
theorem dX2_close_26 : decode cX2_close 26 = .ok (.invokevirtual 65, 3) := by decide +kernel
theorem dX2_close_29 : decode cX2_close 29 = .ok (.return_, 1) := by decide +kernel
theorem dX2_close_30 : decode cX2_close 30 = .ok (.aload_n 0, 1) := by decide +kernel
theorem dX2_close_31 : decode cX2_close 31 = .ok (.dup, 1) := by decide +kernel
theorem dX2_close_32 : decode cX2_close 32 = .ok (.getfield 25, 3) := by decide +kernel
theorem dX2_close_35 : decode cX2_close 35 = .ok (.iconst 1, 1) := by decide +kernel
theorem dX2_close_36 : decode cX2_close 36 = .ok (.iadd, 1) := by decide +kernel
theorem dX2_close_37 : decode cX2_close 37 = .ok (.putfield 25, 3) := by decide +kernel
theorem dX2_close_40 : decode cX2_close 40 = .ok (.aload_n 0, 1) := by decide +kernel
theorem dX2_close_41 : decode cX2_close 41 = .ok (.getfield 43, 3) := by decide +kernel
theorem dX2_close_44 : decode cX2_close 44 = .ok (.aload_n 0, 1) := by decide +kernel
theorem dX2_close_45 : decode cX2_close 45 = .ok (.getfield 32, 3) := by decide +kernel
theorem dX2_close_48 : decode cX2_close 48 = .ok (.iaload, 1) := by decide +kernel
theorem dX2_close_49 : decode cX2_close 49 = .ok (.istore_n 1, 1) := by decide +kernel
theorem dX2_close_50 : decode cX2_close 50 = .ok (.aload_n 0, 1) := by decide +kernel
theorem dX2_close_51 : decode cX2_close 51 = .ok (.getfield 46, 3) := by decide +kernel
theorem dX2_close_54 : decode cX2_close 54 = .ok (.aload_n 0, 1) := by decide +kernel
theorem dX2_close_55 : decode cX2_close 55 = .ok (.getfield 32, 3) := by decide +kernel
theorem dX2_close_58 : decode cX2_close 58 = .ok (.iaload, 1) := by decide +kernel
theorem dX2_close_59 : decode cX2_close 59 = .ok (.istore_n 2, 1) := by decide +kernel
theorem dX2_close_60 : decode cX2_close 60 = .ok (.aload_n 0, 1) := by decide +kernel
theorem dX2_close_61 : decode cX2_close 61 = .ok (.getfield 39, 3) := by decide +kernel
theorem dX2_close_64 : decode cX2_close 64 = .ok (.aload_n 0, 1) := by decide +kernel
theorem dX2_close_65 : decode cX2_close 65 = .ok (.getfield 32, 3) := by decide +kernel
theorem dX2_close_68 : decode cX2_close 68 = .ok (.laload, 1) := by decide +kernel
theorem dX2_close_69 : decode cX2_close 69 = .ok (.lstore_n 3, 1) := by decide +kernel
theorem dX2_close_70 : decode cX2_close 70 = .ok (.aload_n 0, 1) := by decide +kernel
theorem dX2_close_71 : decode cX2_close 71 = .ok (.getfield 21, 3) := by decide +kernel
theorem dX2_close_74 : decode cX2_close 74 = .ok (.aload_n 0, 1) := by decide +kernel
theorem dX2_close_75 : decode cX2_close 75 = .ok (.getfield 35, 3) := by decide +kernel
theorem dX2_close_78 : decode cX2_close 78 = .ok (.aload_n 0, 1) := by decide +kernel
theorem dX2_close_79 : decode cX2_close 79 = .ok (.getfield 32, 3) := by decide +kernel
theorem dX2_close_82 : decode cX2_close 82 = .ok (.iaload, 1) := by decide +kernel
theorem dX2_close_83 : decode cX2_close 83 = .ok (.lload_n 3, 1) := by decide +kernel
theorem dX2_close_84 : decode cX2_close 84 = .ok (.iload_n 1, 1) := by decide +kernel
theorem dX2_close_85 : decode cX2_close 85 = .ok (.iload_n 2, 1) := by decide +kernel
theorem dX2_close_86 : decode cX2_close 86 = .ok (.invokevirtual 113, 3) := by decide +kernel
theorem dX2_close_89 : decode cX2_close 89 = .ok (.istore 5, 2) := by decide +kernel
theorem dX2_close_91 : decode cX2_close 91 = .ok (.aload_n 0, 1) := by decide +kernel
theorem dX2_close_92 : decode cX2_close 92 = .ok (.dup, 1) := by decide +kernel
theorem dX2_close_93 : decode cX2_close 93 = .ok (.getfield 32, 3) := by decide +kernel
theorem dX2_close_96 : decode cX2_close 96 = .ok (.iconst 1, 1) := by decide +kernel
theorem dX2_close_97 : decode cX2_close 97 = .ok (.isub, 1) := by decide +kernel
theorem dX2_close_98 : decode cX2_close 98 = .ok (.putfield 32, 3) := by decide +kernel
theorem dX2_close_101 : decode cX2_close 101 = .ok (.aload_n 0, 1) := by decide +kernel
theorem dX2_close_102 : decode cX2_close 102 = .ok (.lload_n 3, 1) := by decide +kernel
theorem dX2_close_103 : decode cX2_close 103 = .ok (.iload 5, 2) := by decide +kernel
theorem dX2_close_105 : decode cX2_close 105 = .ok (.i2l, 1) := by decide +kernel
theorem dX2_close_106 : decode cX2_close 106 = .ok (.lmul, 1) := by decide +kernel
theorem dX2_close_107 : decode cX2_close 107 = .ok (.invokevirtual 104, 3) := by decide +kernel
theorem dX2_close_110 : decode cX2_close 110 = .ok (.iload_n 1, 1) := by decide +kernel
theorem dX2_close_111 : decode cX2_close 111 = .ok (.iconst (-1), 1) := by decide +kernel
theorem dX2_close_112 : decode cX2_close 112 = .ok (.if_icmp .eq 13, 3) := by decide +kernel
theorem dX2_close_115 : decode cX2_close 115 = .ok (.aload_n 0, 1) := by decide +kernel
theorem dX2_close_116 : decode cX2_close 116 = .ok (.getfield 43, 3) := by decide +kernel
theorem dX2_close_119 : decode cX2_close 119 = .ok (.aload_n 0, 1) := by decide +kernel
theorem dX2_close_120 : decode cX2_close 120 = .ok (.getfield 32, 3) := by decide +kernel
theorem dX2_close_123 : decode cX2_close 123 = .ok (.iload_n 1, 1) := by decide +kernel
theorem dX2_close_124 : decode cX2_close 124 = .ok (.iastore, 1) := by decide +kernel
theorem dX2_close_125 : decode cX2_close 125 = .ok (.iload_n 2, 1) := by decide +kernel
theorem dX2_close_126 : decode cX2_close 126 = .ok (.iconst (-1), 1) := by decide +kernel
theorem dX2_close_127 : decode cX2_close 127 = .ok (.if_icmp .eq 13, 3) := by decide +kernel
theorem dX2_close_130 : decode cX2_close 130 = .ok (.aload_n 0, 1) := by decide +kernel
theorem dX2_close_131 : decode cX2_close 131 = .ok (.getfield 46, 3) := by decide +kernel
theorem dX2_close_134 : decode cX2_close 134 = .ok (.aload_n 0, 1) := by decide +kernel
theorem dX2_close_135 : decode cX2_close 135 = .ok (.getfield 32, 3) := by decide +kernel
theorem dX2_close_138 : decode cX2_close 138 = .ok (.iload_n 2, 1) := by decide +kernel
theorem dX2_close_139 : decode cX2_close 139 = .ok (.iastore, 1) := by decide +kernel
theorem dX2_close_140 : decode cX2_close 140 = .ok (.return_, 1) := by decide +kernel
theorem dX2_beginLevel_0 : decode cX2_beginLevel 0 = .ok (.aload_n 0, 1) := by decide +kernel
theorem dX2_beginLevel_1 : decode cX2_beginLevel 1 = .ok (.getfield 35, 3) := by decide +kernel
theorem dX2_beginLevel_4 : decode cX2_beginLevel 4 = .ok (.aload_n 0, 1) := by decide +kernel
theorem dX2_beginLevel_5 : decode cX2_beginLevel 5 = .ok (.getfield 32, 3) := by decide +kernel
theorem dX2_beginLevel_8 : decode cX2_beginLevel 8 = .ok (.iconst (-1), 1) := by decide +kernel
theorem dX2_beginLevel_9 : decode cX2_beginLevel 9 = .ok (.iastore, 1) := by decide +kernel
theorem dX2_beginLevel_10 : decode cX2_beginLevel 10 = .ok (.aload_n 0, 1) := by decide +kernel
theorem dX2_beginLevel_11 : decode cX2_beginLevel 11 = .ok (.getfield 39, 3) := by decide +kernel
theorem dX2_beginLevel_14 : decode cX2_beginLevel 14 = .ok (.aload_n 0, 1) := by decide +kernel
theorem dX2_beginLevel_15 : decode cX2_beginLevel 15 = .ok (.getfield 32, 3) := by decide +kernel
theorem dX2_beginLevel_18 : decode cX2_beginLevel 18 = .ok (.lconst 0, 1) := by decide +kernel
theorem dX2_beginLevel_19 : decode cX2_beginLevel 19 = .ok (.lastore, 1) := by decide +kernel
theorem dX2_beginLevel_20 : decode cX2_beginLevel 20 = .ok (.aload_n 0, 1) := by decide +kernel
theorem dX2_beginLevel_21 : decode cX2_beginLevel 21 = .ok (.getfield 43, 3) := by decide +kernel
theorem dX2_beginLevel_24 : decode cX2_beginLevel 24 = .ok (.aload_n 0, 1) := by decide +kernel
theorem dX2_beginLevel_25 : decode cX2_beginLevel 25 = .ok (.getfield 32, 3) := by decide +kernel
theorem dX2_beginLevel_28 : decode cX2_beginLevel 28 = .ok (.iconst (-1), 1) := by decide +kernel
theorem dX2_beginLevel_29 : decode cX2_beginLevel 29 = .ok (.iastore, 1) := by decide +kernel
theorem dX2_beginLevel_30 : decode cX2_beginLevel 30 = .ok (.aload_n 0, 1) := by decide +kernel
theorem dX2_beginLevel_31 : decode cX2_beginLevel 31 = .ok (.getfield 46, 3) := by decide +kernel
theorem dX2_beginLevel_34 : decode cX2_beginLevel 34 = .ok (.aload_n 0, 1) := by decide +kernel
theorem dX2_beginLevel_35 : decode cX2_beginLevel 35 = .ok (.getfield 32, 3) := by decide +kernel
theorem dX2_beginLevel_38 : decode cX2_beginLevel 38 = .ok (.iconst (-1), 1) := by decide +kernel
theorem dX2_beginLevel_39 : decode cX2_beginLevel 39 = .ok (.iastore, 1) := by decide +kernel
theorem dX2_beginLevel_40 : decode cX2_beginLevel 40 = .ok (.return_, 1) := by decide +kernel
theorem dX2_addPicks_0 : decode cX2_addPicks 0 = .ok (.aload_n 0, 1) := by decide +kernel
theorem dX2_addPicks_1 : decode cX2_addPicks 1 = .ok (.getfield 39, 3) := by decide +kernel
theorem dX2_addPicks_4 : decode cX2_addPicks 4 = .ok (.aload_n 0, 1) := by decide +kernel
theorem dX2_addPicks_5 : decode cX2_addPicks 5 = .ok (.getfield 32, 3) := by decide +kernel
theorem dX2_addPicks_8 : decode cX2_addPicks 8 = .ok (.aload_n 0, 1) := by decide +kernel
theorem dX2_addPicks_9 : decode cX2_addPicks 9 = .ok (.getfield 39, 3) := by decide +kernel
theorem dX2_addPicks_12 : decode cX2_addPicks 12 = .ok (.aload_n 0, 1) := by decide +kernel
theorem dX2_addPicks_13 : decode cX2_addPicks 13 = .ok (.getfield 32, 3) := by decide +kernel
theorem dX2_addPicks_16 : decode cX2_addPicks 16 = .ok (.laload, 1) := by decide +kernel
theorem dX2_addPicks_17 : decode cX2_addPicks 17 = .ok (.lload_n 1, 1) := by decide +kernel
theorem dX2_addPicks_18 : decode cX2_addPicks 18 = .ok (.ladd, 1) := by decide +kernel
theorem dX2_addPicks_19 : decode cX2_addPicks 19 = .ok (.ldc2_w 117, 3) := by decide +kernel
theorem dX2_addPicks_22 : decode cX2_addPicks 22 = .ok (.invokestatic 119, 3) := by decide +kernel
theorem dX2_addPicks_25 : decode cX2_addPicks 25 = .ok (.lastore, 1) := by decide +kernel
theorem dX2_addPicks_26 : decode cX2_addPicks 26 = .ok (.return_, 1) := by decide +kernel
set_option maxRecDepth 20000 in
theorem ggX2_readDigits_X5_charOf : GoodIn wsX2_readDigits wsX5_charOf := goodIn_r _ [12, 13, 14, 33, 34] (by decide +kernel) (by decide +kernel)
set_option maxRecDepth 20000 in
theorem gX2_readDigits_X5_charOf : GoodIn wsX2_readDigits (wsV RX2 75 RX5 yX5_charOf wsX5_charOf) := goodIn_app (goodIn_of _ (by decide +kernel)) ggX2_readDigits_X5_charOf
set_option maxRecDepth 20000 in
theorem ggX2_readDigits_X2_digitOf : GoodIn wsX2_readDigits wsX2_digitOf := goodIn_r _ [18] (by decide +kernel) (by decide +kernel)
set_option maxRecDepth 20000 in
theorem gX2_readDigits_X2_digitOf : GoodIn wsX2_readDigits (va_wsS RX2 125 yX2_digitOf wsX2_digitOf) := goodIn_app (goodIn_of _ (by decide +kernel)) ggX2_readDigits_X2_digitOf
set_option maxRecDepth 20000 in
theorem ggX2_readDigits_X2_faultAt : GoodIn wsX2_readDigits wsX2_faultAt := goodIn_r _ [22, 23, 24, 25, 26, 27, 28, 29, 30, 31, 32] (by decide +kernel) (by decide +kernel)
set_option maxRecDepth 20000 in
theorem gX2_readDigits_X2_faultAt : GoodIn wsX2_readDigits (wsV RX2 65 RX2 yX2_faultAt wsX2_faultAt) := goodIn_app (goodIn_of _ (by decide +kernel)) ggX2_readDigits_X2_faultAt
theorem dX2_readDigits_0 : decode cX2_readDigits 0 = .ok (.aload_n 0, 1) := by decide +kernel
theorem dX2_readDigits_1 : decode cX2_readDigits 1 = .ok (.getfield 25, 3) := by decide +kernel
theorem dX2_readDigits_4 : decode cX2_readDigits 4 = .ok (.istore_n 3, 1) := by decide +kernel
theorem dX2_readDigits_5 : decode cX2_readDigits 5 = .ok (.iconst 0, 1) := by decide +kernel
theorem dX2_readDigits_6 : decode cX2_readDigits 6 = .ok (.istore 4, 2) := by decide +kernel
theorem dX2_readDigits_8 : decode cX2_readDigits 8 = .ok (.iconst 0, 1) := by decide +kernel
theorem dX2_readDigits_9 : decode cX2_readDigits 9 = .ok (.istore 5, 2) := by decide +kernel
theorem dX2_readDigits_11 : decode cX2_readDigits 11 = .ok (.iload 5, 2) := by decide +kernel
theorem dX2_readDigits_13 : decode cX2_readDigits 13 = .ok (.iload_n 2, 1) := by decide +kernel
theorem dX2_readDigits_14 : decode cX2_readDigits 14 = .ok (.if_icmp .ge 63, 3) := by decide +kernel
theorem dX2_readDigits_17 : decode cX2_readDigits 17 = .ok (.aload_n 0, 1) := by decide +kernel
theorem dX2_readDigits_18 : decode cX2_readDigits 18 = .ok (.getfield 12, 3) := by decide +kernel
theorem dX2_readDigits_21 : decode cX2_readDigits 21 = .ok (.aload_n 0, 1) := by decide +kernel
theorem dX2_readDigits_22 : decode cX2_readDigits 22 = .ok (.getfield 25, 3) := by decide +kernel
theorem dX2_readDigits_25 : decode cX2_readDigits 25 = .ok (.invokevirtual 75, 3) := by decide +kernel
theorem dX2_readDigits_28 : decode cX2_readDigits 28 = .ok (.invokestatic 125, 3) := by decide +kernel
theorem dX2_readDigits_31 : decode cX2_readDigits 31 = .ok (.istore 6, 2) := by decide +kernel
theorem dX2_readDigits_33 : decode cX2_readDigits 33 = .ok (.iload 6, 2) := by decide +kernel
theorem dX2_readDigits_35 : decode cX2_readDigits 35 = .ok (.ifCond .lt 42, 3) := by decide +kernel
theorem dX2_readDigits_38 : decode cX2_readDigits 38 = .ok (.iload 6, 2) := by decide +kernel
theorem dX2_readDigits_40 : decode cX2_readDigits 40 = .ok (.iload_n 1, 1) := by decide +kernel
theorem dX2_readDigits_41 : decode cX2_readDigits 41 = .ok (.if_icmp .lt 6, 3) := by decide +kernel
theorem dX2_readDigits_44 : decode cX2_readDigits 44 = .ok (.goto 33, 3) := by decide +kernel
theorem dX2_readDigits_47 : decode cX2_readDigits 47 = .ok (.iload 4, 2) := by decide +kernel
theorem dX2_readDigits_49 : decode cX2_readDigits 49 = .ok (.iload_n 1, 1) := by decide +kernel
theorem dX2_readDigits_50 : decode cX2_readDigits 50 = .ok (.imul, 1) := by decide +kernel
theorem dX2_readDigits_51 : decode cX2_readDigits 51 = .ok (.iload 6, 2) := by decide +kernel
theorem dX2_readDigits_53 : decode cX2_readDigits 53 = .ok (.iadd, 1) := by decide +kernel
theorem dX2_readDigits_54 : decode cX2_readDigits 54 = .ok (.ldc 128, 2) := by decide +kernel
theorem dX2_readDigits_56 : decode cX2_readDigits 56 = .ok (.invokestatic 129, 3) := by decide +kernel
theorem dX2_readDigits_59 : decode cX2_readDigits 59 = .ok (.istore 4, 2) := by decide +kernel
theorem dX2_readDigits_61 : decode cX2_readDigits 61 = .ok (.aload_n 0, 1) := by decide +kernel
theorem dX2_readDigits_62 : decode cX2_readDigits 62 = .ok (.dup, 1) := by decide +kernel
theorem dX2_readDigits_63 : decode cX2_readDigits 63 = .ok (.getfield 25, 3) := by decide +kernel
theorem dX2_readDigits_66 : decode cX2_readDigits 66 = .ok (.iconst 1, 1) := by decide +kernel
theorem dX2_readDigits_67 : decode cX2_readDigits 67 = .ok (.iadd, 1) := by decide +kernel
theorem dX2_readDigits_68 : decode cX2_readDigits 68 = .ok (.putfield 25, 3) := by decide +kernel
theorem dX2_readDigits_71 : decode cX2_readDigits 71 = .ok (.iinc 5 1, 3) := by decide +kernel
theorem dX2_readDigits_74 : decode cX2_readDigits 74 = .ok (.goto (-63), 3) := by decide +kernel
theorem dX2_readDigits_77 : decode cX2_readDigits 77 = .ok (.aload_n 0, 1) := by decide +kernel
theorem dX2_readDigits_78 : decode cX2_readDigits 78 = .ok (.getfield 25, 3) := by decide +kernel
theorem dX2_readDigits_81 : decode cX2_readDigits 81 = .ok (.iload_n 3, 1) := by decide +kernel
theorem dX2_readDigits_82 : decode cX2_readDigits 82 = .ok (.if_icmp .ne 11, 3) := by decide +kernel
theorem dX2_readDigits_85 : decode cX2_readDigits 85 = .ok (.aload_n 0, 1) := by decide +kernel
theorem dX2_readDigits_86 : decode cX2_readDigits 86 = .ok (.aload_n 0, 1) := by decide +kernel
theorem dX2_readDigits_87 : decode cX2_readDigits 87 = .ok (.getfield 25, 3) := by decide +kernel
theorem dX2_readDigits_90 : decode cX2_readDigits 90 = .ok (.invokevirtual 65, 3) := by decide +kernel
theorem dX2_readDigits_93 : decode cX2_readDigits 93 = .ok (.iload 4, 2) := by decide +kernel
theorem dX2_readDigits_95 : decode cX2_readDigits 95 = .ok (.ireturn, 1) := by decide +kernel
theorem dX2_digitOf_0 : decode cX2_digitOf 0 = .ok (.iload_n 0, 1) := by decide +kernel
theorem dX2_digitOf_1 : decode cX2_digitOf 1 = .ok (.bipush 48, 2) := by decide +kernel
theorem dX2_digitOf_3 : decode cX2_digitOf 3 = .ok (.if_icmp .lt 14, 3) := by decide +kernel
theorem dX2_digitOf_6 : decode cX2_digitOf 6 = .ok (.iload_n 0, 1) := by decide +kernel
theorem dX2_digitOf_7 : decode cX2_digitOf 7 = .ok (.bipush 57, 2) := by decide +kernel
theorem dX2_digitOf_9 : decode cX2_digitOf 9 = .ok (.if_icmp .gt 8, 3) := by decide +kernel
theorem dX2_digitOf_12 : decode cX2_digitOf 12 = .ok (.iload_n 0, 1) := by decide +kernel
theorem dX2_digitOf_13 : decode cX2_digitOf 13 = .ok (.bipush 48, 2) := by decide +kernel
theorem dX2_digitOf_15 : decode cX2_digitOf 15 = .ok (.isub, 1) := by decide +kernel
theorem dX2_digitOf_16 : decode cX2_digitOf 16 = .ok (.ireturn, 1) := by decide +kernel
theorem dX2_digitOf_17 : decode cX2_digitOf 17 = .ok (.iload_n 0, 1) := by decide +kernel
theorem dX2_digitOf_18 : decode cX2_digitOf 18 = .ok (.bipush 97, 2) := by decide +kernel
theorem dX2_digitOf_20 : decode cX2_digitOf 20 = .ok (.if_icmp .lt 19, 3) := by decide +kernel
theorem dX2_digitOf_23 : decode cX2_digitOf 23 = .ok (.iload_n 0, 1) := by decide +kernel
theorem dX2_digitOf_24 : decode cX2_digitOf 24 = .ok (.bipush 102, 2) := by decide +kernel
theorem dX2_digitOf_26 : decode cX2_digitOf 26 = .ok (.if_icmp .gt 13, 3) := by decide +kernel
theorem dX2_digitOf_29 : decode cX2_digitOf 29 = .ok (.iload_n 0, 1) := by decide +kernel
theorem dX2_digitOf_30 : decode cX2_digitOf 30 = .ok (.bipush 97, 2) := by decide +kernel
theorem dX2_digitOf_32 : decode cX2_digitOf 32 = .ok (.isub, 1) := by decide +kernel
theorem dX2_digitOf_33 : decode cX2_digitOf 33 = .ok (.bipush 10, 2) := by decide +kernel
theorem dX2_digitOf_35 : decode cX2_digitOf 35 = .ok (.iadd, 1) := by decide +kernel
theorem dX2_digitOf_36 : decode cX2_digitOf 36 = .ok (.goto 4, 3) := by decide +kernel
theorem dX2_digitOf_39 : decode cX2_digitOf 39 = .ok (.iconst (-1), 1) := by decide +kernel
theorem dX2_digitOf_40 : decode cX2_digitOf 40 = .ok (.ireturn, 1) := by decide +kernel
theorem dX2_isAllowed_0 : decode cX2_isAllowed 0 = .ok (.iconst 0, 1) := by decide +kernel
theorem dX2_isAllowed_1 : decode cX2_isAllowed 1 = .ok (.istore_n 1, 1) := by decide +kernel
theorem dX2_isAllowed_2 : decode cX2_isAllowed 2 = .ok (.iload_n 1, 1) := by decide +kernel
theorem dX2_isAllowed_3 : decode cX2_isAllowed 3 = .ok (.getstatic 131, 3) := by decide +kernel
theorem dX2_isAllowed_6 : decode cX2_isAllowed 6 = .ok (.arraylength, 1) := by decide +kernel
theorem dX2_isAllowed_7 : decode cX2_isAllowed 7 = .ok (.if_icmp .ge 20, 3) := by decide +kernel
theorem dX2_isAllowed_10 : decode cX2_isAllowed 10 = .ok (.getstatic 131, 3) := by decide +kernel
theorem dX2_isAllowed_13 : decode cX2_isAllowed 13 = .ok (.iload_n 1, 1) := by decide +kernel
theorem dX2_isAllowed_14 : decode cX2_isAllowed 14 = .ok (.iaload, 1) := by decide +kernel
theorem dX2_isAllowed_15 : decode cX2_isAllowed 15 = .ok (.iload_n 0, 1) := by decide +kernel
theorem dX2_isAllowed_16 : decode cX2_isAllowed 16 = .ok (.if_icmp .ne 5, 3) := by decide +kernel
theorem dX2_isAllowed_19 : decode cX2_isAllowed 19 = .ok (.iconst 1, 1) := by decide +kernel
theorem dX2_isAllowed_20 : decode cX2_isAllowed 20 = .ok (.ireturn, 1) := by decide +kernel
theorem dX2_isAllowed_21 : decode cX2_isAllowed 21 = .ok (.iinc 1 1, 3) := by decide +kernel
theorem dX2_isAllowed_24 : decode cX2_isAllowed 24 = .ok (.goto (-22), 3) := by decide +kernel
theorem dX2_isAllowed_27 : decode cX2_isAllowed 27 = .ok (.iconst 0, 1) := by decide +kernel
theorem dX2_isAllowed_28 : decode cX2_isAllowed 28 = .ok (.ireturn, 1) := by decide +kernel
theorem dX2_faultAt_0 : decode cX2_faultAt 0 = .ok (.aload_n 0, 1) := by decide +kernel
theorem dX2_faultAt_1 : decode cX2_faultAt 1 = .ok (.getfield 29, 3) := by decide +kernel
theorem dX2_faultAt_4 : decode cX2_faultAt 4 = .ok (.iconst (-1), 1) := by decide +kernel
theorem dX2_faultAt_5 : decode cX2_faultAt 5 = .ok (.if_icmp .ne 8, 3) := by decide +kernel
theorem dX2_faultAt_8 : decode cX2_faultAt 8 = .ok (.aload_n 0, 1) := by decide +kernel
theorem dX2_faultAt_9 : decode cX2_faultAt 9 = .ok (.iload_n 1, 1) := by decide +kernel
theorem dX2_faultAt_10 : decode cX2_faultAt 10 = .ok (.putfield 29, 3) := by decide +kernel
theorem dX2_faultAt_13 : decode cX2_faultAt 13 = .ok (.return_, 1) := by decide +kernel
theorem dX3_init_0 : decode cX3_init 0 = .ok (.aload_n 0, 1) := by decide +kernel
theorem dX3_init_1 : decode cX3_init 1 = .ok (.invokespecial 3, 3) := by decide +kernel
theorem dX3_init_4 : decode cX3_init 4 = .ok (.aload_n 0, 1) := by decide +kernel
theorem dX3_init_5 : decode cX3_init 5 = .ok (.iconst 2, 1) := by decide +kernel
theorem dX3_init_6 : decode cX3_init 6 = .ok (.newarray .int, 2) := by decide +kernel
theorem dX3_init_8 : decode cX3_init 8 = .ok (.dup, 1) := by decide +kernel
theorem dX3_init_9 : decode cX3_init 9 = .ok (.iconst 0, 1) := by decide +kernel
theorem dX3_init_10 : decode cX3_init 10 = .ok (.iconst (-1), 1) := by decide +kernel
theorem dX3_init_11 : decode cX3_init 11 = .ok (.iastore, 1) := by decide +kernel
theorem dX3_init_12 : decode cX3_init 12 = .ok (.dup, 1) := by decide +kernel
theorem dX3_init_13 : decode cX3_init 13 = .ok (.iconst 1, 1) := by decide +kernel
theorem dX3_init_14 : decode cX3_init 14 = .ok (.iconst (-1), 1) := by decide +kernel
theorem dX3_init_15 : decode cX3_init 15 = .ok (.iastore, 1) := by decide +kernel
theorem dX3_init_16 : decode cX3_init 16 = .ok (.putfield 9, 3) := by decide +kernel
theorem dX3_init_19 : decode cX3_init 19 = .ok (.aload_n 0, 1) := by decide +kernel
theorem dX3_init_20 : decode cX3_init 20 = .ok (.iconst 2, 1) := by decide +kernel
theorem dX3_init_21 : decode cX3_init 21 = .ok (.newarray .long, 2) := by decide +kernel
theorem dX3_init_23 : decode cX3_init 23 = .ok (.dup, 1) := by decide +kernel
theorem dX3_init_24 : decode cX3_init 24 = .ok (.iconst 0, 1) := by decide +kernel
theorem dX3_init_25 : decode cX3_init 25 = .ok (.lconst 0, 1) := by decide +kernel
theorem dX3_init_26 : decode cX3_init 26 = .ok (.lastore, 1) := by decide +kernel
theorem dX3_init_27 : decode cX3_init 27 = .ok (.dup, 1) := by decide +kernel
theorem dX3_init_28 : decode cX3_init 28 = .ok (.iconst 1, 1) := by decide +kernel
theorem dX3_init_29 : decode cX3_init 29 = .ok (.lconst 0, 1) := by decide +kernel
theorem dX3_init_30 : decode cX3_init 30 = .ok (.lastore, 1) := by decide +kernel
theorem dX3_init_31 : decode cX3_init 31 = .ok (.putfield 15, 3) := by decide +kernel
theorem dX3_init_34 : decode cX3_init 34 = .ok (.aload_n 0, 1) := by decide +kernel
theorem dX3_init_35 : decode cX3_init 35 = .ok (.iconst 0, 1) := by decide +kernel
theorem dX3_init_36 : decode cX3_init 36 = .ok (.putfield 19, 3) := by decide +kernel
theorem dX3_init_39 : decode cX3_init 39 = .ok (.return_, 1) := by decide +kernel
set_option maxRecDepth 20000 in
theorem ggX3_write_X3_other : GoodIn wsX3_write wsX3_other := goodIn_r _ [8, 1, 9, 10, 11] (by decide +kernel) (by decide +kernel)
set_option maxRecDepth 20000 in
theorem gX3_write_X3_other : GoodIn wsX3_write (wsV RX3 23 RX3 yX3_other wsX3_other) := goodIn_app (goodIn_of _ (by decide +kernel)) ggX3_write_X3_other
theorem dX3_write_0 : decode cX3_write 0 = .ok (.aload_n 0, 1) := by decide +kernel
theorem dX3_write_1 : decode cX3_write 1 = .ok (.aload_n 0, 1) := by decide +kernel
theorem dX3_write_2 : decode cX3_write 2 = .ok (.invokevirtual 23, 3) := by decide +kernel
theorem dX3_write_5 : decode cX3_write 5 = .ok (.putfield 19, 3) := by decide +kernel
theorem dX3_write_8 : decode cX3_write 8 = .ok (.aload_n 0, 1) := by decide +kernel
theorem dX3_write_9 : decode cX3_write 9 = .ok (.getfield 9, 3) := by decide +kernel
theorem dX3_write_12 : decode cX3_write 12 = .ok (.aload_n 0, 1) := by decide +kernel
theorem dX3_write_13 : decode cX3_write 13 = .ok (.getfield 19, 3) := by decide +kernel
theorem dX3_write_16 : decode cX3_write 16 = .ok (.iload_n 1, 1) := by decide +kernel
theorem dX3_write_17 : decode cX3_write 17 = .ok (.iastore, 1) := by decide +kernel
theorem dX3_write_18 : decode cX3_write 18 = .ok (.aload_n 0, 1) := by decide +kernel
theorem dX3_write_19 : decode cX3_write 19 = .ok (.getfield 15, 3) := by decide +kernel
theorem dX3_write_22 : decode cX3_write 22 = .ok (.aload_n 0, 1) := by decide +kernel
theorem dX3_write_23 : decode cX3_write 23 = .ok (.getfield 19, 3) := by decide +kernel
theorem dX3_write_26 : decode cX3_write 26 = .ok (.lload_n 2, 1) := by decide +kernel
theorem dX3_write_27 : decode cX3_write 27 = .ok (.lastore, 1) := by decide +kernel
theorem dX3_write_28 : decode cX3_write 28 = .ok (.return_, 1) := by decide +kernel
theorem dX3_spoilLast_0 : decode cX3_spoilLast 0 = .ok (.aload_n 0, 1) := by decide +kernel
theorem dX3_spoilLast_1 : decode cX3_spoilLast 1 = .ok (.getfield 9, 3) := by decide +kernel
theorem dX3_spoilLast_4 : decode cX3_spoilLast 4 = .ok (.aload_n 0, 1) := by decide +kernel
theorem dX3_spoilLast_5 : decode cX3_spoilLast 5 = .ok (.getfield 19, 3) := by decide +kernel
theorem dX3_spoilLast_8 : decode cX3_spoilLast 8 = .ok (.iconst (-1), 1) := by decide +kernel
theorem dX3_spoilLast_9 : decode cX3_spoilLast 9 = .ok (.iastore, 1) := by decide +kernel
theorem dX3_spoilLast_10 : decode cX3_spoilLast 10 = .ok (.return_, 1) := by decide +kernel
theorem dX3_clear_0 : decode cX3_clear 0 = .ok (.aload_n 0, 1) := by decide +kernel
theorem dX3_clear_1 : decode cX3_clear 1 = .ok (.getfield 9, 3) := by decide +kernel
theorem dX3_clear_4 : decode cX3_clear 4 = .ok (.iconst 0, 1) := by decide +kernel
theorem dX3_clear_5 : decode cX3_clear 5 = .ok (.iconst (-1), 1) := by decide +kernel
theorem dX3_clear_6 : decode cX3_clear 6 = .ok (.iastore, 1) := by decide +kernel
theorem dX3_clear_7 : decode cX3_clear 7 = .ok (.aload_n 0, 1) := by decide +kernel
theorem dX3_clear_8 : decode cX3_clear 8 = .ok (.getfield 9, 3) := by decide +kernel
theorem dX3_clear_11 : decode cX3_clear 11 = .ok (.iconst 1, 1) := by decide +kernel
theorem dX3_clear_12 : decode cX3_clear 12 = .ok (.iconst (-1), 1) := by decide +kernel
theorem dX3_clear_13 : decode cX3_clear 13 = .ok (.iastore, 1) := by decide +kernel
theorem dX3_clear_14 : decode cX3_clear 14 = .ok (.return_, 1) := by decide +kernel
set_option maxRecDepth 20000 in
theorem ggX3_newest_X3_other : GoodIn wsX3_newest wsX3_other := goodIn_r _ [7, 2, 8, 9, 10] (by decide +kernel) (by decide +kernel)
set_option maxRecDepth 20000 in
theorem gX3_newest_X3_other : GoodIn wsX3_newest (wsV RX3 23 RX3 yX3_other wsX3_other) := goodIn_app (goodIn_of _ (by decide +kernel)) ggX3_newest_X3_other
theorem dX3_newest_0 : decode cX3_newest 0 = .ok (.aload_n 0, 1) := by decide +kernel
theorem dX3_newest_1 : decode cX3_newest 1 = .ok (.getfield 9, 3) := by decide +kernel
theorem dX3_newest_4 : decode cX3_newest 4 = .ok (.aload_n 0, 1) := by decide +kernel
theorem dX3_newest_5 : decode cX3_newest 5 = .ok (.getfield 19, 3) := by decide +kernel
theorem dX3_newest_8 : decode cX3_newest 8 = .ok (.iaload, 1) := by decide +kernel
theorem dX3_newest_9 : decode cX3_newest 9 = .ok (.iconst (-1), 1) := by decide +kernel
theorem dX3_newest_10 : decode cX3_newest 10 = .ok (.if_icmp .eq 8, 3) := by decide +kernel
theorem dX3_newest_13 : decode cX3_newest 13 = .ok (.aload_n 0, 1) := by decide +kernel
theorem dX3_newest_14 : decode cX3_newest 14 = .ok (.getfield 19, 3) := by decide +kernel
theorem dX3_newest_17 : decode cX3_newest 17 = .ok (.ireturn, 1) := by decide +kernel
theorem dX3_newest_18 : decode cX3_newest 18 = .ok (.aload_n 0, 1) := by decide +kernel
theorem dX3_newest_19 : decode cX3_newest 19 = .ok (.getfield 9, 3) := by decide +kernel
theorem dX3_newest_22 : decode cX3_newest 22 = .ok (.aload_n 0, 1) := by decide +kernel
theorem dX3_newest_23 : decode cX3_newest 23 = .ok (.invokevirtual 23, 3) := by decide +kernel
theorem dX3_newest_26 : decode cX3_newest 26 = .ok (.iaload, 1) := by decide +kernel
theorem dX3_newest_27 : decode cX3_newest 27 = .ok (.iconst (-1), 1) := by decide +kernel
theorem dX3_newest_28 : decode cX3_newest 28 = .ok (.if_icmp .eq 10, 3) := by decide +kernel
theorem dX3_newest_31 : decode cX3_newest 31 = .ok (.aload_n 0, 1) := by decide +kernel
theorem dX3_newest_32 : decode cX3_newest 32 = .ok (.invokevirtual 23, 3) := by decide +kernel
theorem dX3_newest_35 : decode cX3_newest 35 = .ok (.goto 4, 3) := by decide +kernel
theorem dX3_newest_38 : decode cX3_newest 38 = .ok (.iconst (-1), 1) := by decide +kernel
theorem dX3_newest_39 : decode cX3_newest 39 = .ok (.ireturn, 1) := by decide +kernel
theorem dX3_markOf_0 : decode cX3_markOf 0 = .ok (.iload_n 1, 1) := by decide +kernel
theorem dX3_markOf_1 : decode cX3_markOf 1 = .ok (.ifCond .eq 8, 3) := by decide +kernel
theorem dX3_markOf_4 : decode cX3_markOf 4 = .ok (.iload_n 1, 1) := by decide +kernel
theorem dX3_markOf_5 : decode cX3_markOf 5 = .ok (.iconst 1, 1) := by decide +kernel
theorem dX3_markOf_6 : decode cX3_markOf 6 = .ok (.if_icmp .ne 12, 3) := by decide +kernel
theorem dX3_markOf_9 : decode cX3_markOf 9 = .ok (.aload_n 0, 1) := by decide +kernel
theorem dX3_markOf_10 : decode cX3_markOf 10 = .ok (.getfield 9, 3) := by decide +kernel
theorem dX3_markOf_13 : decode cX3_markOf 13 = .ok (.iload_n 1, 1) := by decide +kernel
theorem dX3_markOf_14 : decode cX3_markOf 14 = .ok (.iaload, 1) := by decide +kernel
theorem dX3_markOf_15 : decode cX3_markOf 15 = .ok (.goto 4, 3) := by decide +kernel
theorem dX3_markOf_18 : decode cX3_markOf 18 = .ok (.iconst (-1), 1) := by decide +kernel
theorem dX3_markOf_19 : decode cX3_markOf 19 = .ok (.ireturn, 1) := by decide +kernel
theorem dX3_placeOf_0 : decode cX3_placeOf 0 = .ok (.iload_n 1, 1) := by decide +kernel
theorem dX3_placeOf_1 : decode cX3_placeOf 1 = .ok (.ifCond .eq 8, 3) := by decide +kernel
theorem dX3_placeOf_4 : decode cX3_placeOf 4 = .ok (.iload_n 1, 1) := by decide +kernel
theorem dX3_placeOf_5 : decode cX3_placeOf 5 = .ok (.iconst 1, 1) := by decide +kernel
theorem dX3_placeOf_6 : decode cX3_placeOf 6 = .ok (.if_icmp .ne 12, 3) := by decide +kernel
theorem dX3_placeOf_9 : decode cX3_placeOf 9 = .ok (.aload_n 0, 1) := by decide +kernel
theorem dX3_placeOf_10 : decode cX3_placeOf 10 = .ok (.getfield 15, 3) := by decide +kernel
theorem dX3_placeOf_13 : decode cX3_placeOf 13 = .ok (.iload_n 1, 1) := by decide +kernel
theorem dX3_placeOf_14 : decode cX3_placeOf 14 = .ok (.laload, 1) := by decide +kernel
theorem dX3_placeOf_15 : decode cX3_placeOf 15 = .ok (.goto 4, 3) := by decide +kernel
theorem dX3_placeOf_18 : decode cX3_placeOf 18 = .ok (.lconst 0, 1) := by decide +kernel
theorem dX3_placeOf_19 : decode cX3_placeOf 19 = .ok (.lreturn, 1) := by decide +kernel
theorem dX3_other_0 : decode cX3_other 0 = .ok (.aload_n 0, 1) := by decide +kernel
theorem dX3_other_1 : decode cX3_other 1 = .ok (.getfield 19, 3) := by decide +kernel
theorem dX3_other_4 : decode cX3_other 4 = .ok (.ifCond .ne 7, 3) := by decide +kernel
theorem dX3_other_7 : decode cX3_other 7 = .ok (.iconst 1, 1) := by decide +kernel
theorem dX3_other_8 : decode cX3_other 8 = .ok (.goto 4, 3) := by decide +kernel
theorem dX3_other_11 : decode cX3_other 11 = .ok (.iconst 0, 1) := by decide +kernel
theorem dX3_other_12 : decode cX3_other 12 = .ok (.ireturn, 1) := by decide +kernel
theorem dX4_init_0 : decode cX4_init 0 = .ok (.aload_n 0, 1) := by decide +kernel
theorem dX4_init_1 : decode cX4_init 1 = .ok (.invokespecial 3, 3) := by decide +kernel
theorem dX4_init_4 : decode cX4_init 4 = .ok (.aload_n 0, 1) := by decide +kernel
theorem dX4_init_5 : decode cX4_init 5 = .ok (.iconst 0, 1) := by decide +kernel
theorem dX4_init_6 : decode cX4_init 6 = .ok (.putfield 9, 3) := by decide +kernel
theorem dX4_init_9 : decode cX4_init 9 = .ok (.aload_n 0, 1) := by decide +kernel
theorem dX4_init_10 : decode cX4_init 10 = .ok (.iconst 0, 1) := by decide +kernel
theorem dX4_init_11 : decode cX4_init 11 = .ok (.putfield 15, 3) := by decide +kernel
theorem dX4_init_14 : decode cX4_init 14 = .ok (.aload_n 0, 1) := by decide +kernel
theorem dX4_init_15 : decode cX4_init 15 = .ok (.iconst 0, 1) := by decide +kernel
theorem dX4_init_16 : decode cX4_init 16 = .ok (.putfield 18, 3) := by decide +kernel
theorem dX4_init_19 : decode cX4_init 19 = .ok (.aload_n 0, 1) := by decide +kernel
theorem dX4_init_20 : decode cX4_init 20 = .ok (.sipush 960, 3) := by decide +kernel
theorem dX4_init_23 : decode cX4_init 23 = .ok (.putfield 21, 3) := by decide +kernel
theorem dX4_init_26 : decode cX4_init 26 = .ok (.aload_n 0, 1) := by decide +kernel
theorem dX4_init_27 : decode cX4_init 27 = .ok (.iconst 0, 1) := by decide +kernel
theorem dX4_init_28 : decode cX4_init 28 = .ok (.putfield 24, 3) := by decide +kernel
theorem dX4_init_31 : decode cX4_init 31 = .ok (.aload_n 0, 1) := by decide +kernel
theorem dX4_init_32 : decode cX4_init 32 = .ok (.lconst 0, 1) := by decide +kernel
theorem dX4_init_33 : decode cX4_init 33 = .ok (.putfield 27, 3) := by decide +kernel
theorem dX4_init_36 : decode cX4_init 36 = .ok (.return_, 1) := by decide +kernel
theorem dX4_stands_0 : decode cX4_stands 0 = .ok (.aload_n 0, 1) := by decide +kernel
theorem dX4_stands_1 : decode cX4_stands 1 = .ok (.getfield 15, 3) := by decide +kernel
theorem dX4_stands_4 : decode cX4_stands 4 = .ok (.ifCond .ne 7, 3) := by decide +kernel
theorem dX4_stands_7 : decode cX4_stands 7 = .ok (.iconst 1, 1) := by decide +kernel
theorem dX4_stands_8 : decode cX4_stands 8 = .ok (.goto 4, 3) := by decide +kernel
theorem dX4_stands_11 : decode cX4_stands 11 = .ok (.iconst 0, 1) := by decide +kernel
theorem dX4_stands_12 : decode cX4_stands 12 = .ok (.ireturn, 1) := by decide +kernel
theorem dX4_stand_0 : decode cX4_stand 0 = .ok (.aload_n 0, 1) := by decide +kernel
theorem dX4_stand_1 : decode cX4_stand 1 = .ok (.iconst 0, 1) := by decide +kernel
theorem dX4_stand_2 : decode cX4_stand 2 = .ok (.putfield 15, 3) := by decide +kernel
theorem dX4_stand_5 : decode cX4_stand 5 = .ok (.aload_n 0, 1) := by decide +kernel
theorem dX4_stand_6 : decode cX4_stand 6 = .ok (.iconst 0, 1) := by decide +kernel
theorem dX4_stand_7 : decode cX4_stand 7 = .ok (.putfield 18, 3) := by decide +kernel
theorem dX4_stand_10 : decode cX4_stand 10 = .ok (.return_, 1) := by decide +kernel
theorem dX4_orderBrake_0 : decode cX4_orderBrake 0 = .ok (.aload_n 0, 1) := by decide +kernel
theorem dX4_orderBrake_1 : decode cX4_orderBrake 1 = .ok (.getfield 15, 3) := by decide +kernel
theorem dX4_orderBrake_4 : decode cX4_orderBrake 4 = .ok (.iconst 1, 1) := by decide +kernel
theorem dX4_orderBrake_5 : decode cX4_orderBrake 5 = .ok (.if_icmp .eq 5, 3) := by decide +kernel
theorem dX4_orderBrake_8 : decode cX4_orderBrake 8 = .ok (.iconst 0, 1) := by decide +kernel
theorem dX4_orderBrake_9 : decode cX4_orderBrake 9 = .ok (.ireturn, 1) := by decide +kernel
theorem dX4_orderBrake_10 : decode cX4_orderBrake 10 = .ok (.aload_n 0, 1) := by decide +kernel
theorem dX4_orderBrake_11 : decode cX4_orderBrake 11 = .ok (.iconst 2, 1) := by decide +kernel
theorem dX4_orderBrake_12 : decode cX4_orderBrake 12 = .ok (.putfield 15, 3) := by decide +kernel
theorem dX4_orderBrake_15 : decode cX4_orderBrake 15 = .ok (.aload_n 0, 1) := by decide +kernel
theorem dX4_orderBrake_16 : decode cX4_orderBrake 16 = .ok (.aload_n 0, 1) := by decide +kernel
theorem dX4_orderBrake_17 : decode cX4_orderBrake 17 = .ok (.getfield 21, 3) := by decide +kernel
theorem dX4_orderBrake_20 : decode cX4_orderBrake 20 = .ok (.putfield 18, 3) := by decide +kernel
theorem dX4_orderBrake_23 : decode cX4_orderBrake 23 = .ok (.aload_n 0, 1) := by decide +kernel
theorem dX4_orderBrake_24 : decode cX4_orderBrake 24 = .ok (.dup, 1) := by decide +kernel
theorem dX4_orderBrake_25 : decode cX4_orderBrake 25 = .ok (.getfield 24, 3) := by decide +kernel
theorem dX4_orderBrake_28 : decode cX4_orderBrake 28 = .ok (.iconst 1, 1) := by decide +kernel
theorem dX4_orderBrake_29 : decode cX4_orderBrake 29 = .ok (.iadd, 1) := by decide +kernel
theorem dX4_orderBrake_30 : decode cX4_orderBrake 30 = .ok (.putfield 24, 3) := by decide +kernel
theorem dX4_orderBrake_33 : decode cX4_orderBrake 33 = .ok (.iconst 1, 1) := by decide +kernel
theorem dX4_orderBrake_34 : decode cX4_orderBrake 34 = .ok (.ireturn, 1) := by decide +kernel
theorem dX4_markAbove_0 : decode cX4_markAbove 0 = .ok (.aload_n 0, 1) := by decide +kernel
theorem dX4_markAbove_1 : decode cX4_markAbove 1 = .ok (.getfield 9, 3) := by decide +kernel
theorem dX4_markAbove_4 : decode cX4_markAbove 4 = .ok (.sipush 480, 3) := by decide +kernel
theorem dX4_markAbove_7 : decode cX4_markAbove 7 = .ok (.if_icmp .ge 7, 3) := by decide +kernel
theorem dX4_markAbove_10 : decode cX4_markAbove 10 = .ok (.sipush 480, 3) := by decide +kernel
theorem dX4_markAbove_13 : decode cX4_markAbove 13 = .ok (.ireturn, 1) := by decide +kernel
theorem dX4_markAbove_14 : decode cX4_markAbove 14 = .ok (.aload_n 0, 1) := by decide +kernel
theorem dX4_markAbove_15 : decode cX4_markAbove 15 = .ok (.getfield 9, 3) := by decide +kernel
theorem dX4_markAbove_18 : decode cX4_markAbove 18 = .ok (.sipush 1440, 3) := by decide +kernel
theorem dX4_markAbove_21 : decode cX4_markAbove 21 = .ok (.if_icmp .ge 7, 3) := by decide +kernel
theorem dX4_markAbove_24 : decode cX4_markAbove 24 = .ok (.sipush 1440, 3) := by decide +kernel
theorem dX4_markAbove_27 : decode cX4_markAbove 27 = .ok (.ireturn, 1) := by decide +kernel
theorem dX4_markAbove_28 : decode cX4_markAbove 28 = .ok (.aload_n 0, 1) := by decide +kernel
theorem dX4_markAbove_29 : decode cX4_markAbove 29 = .ok (.getfield 9, 3) := by decide +kernel
theorem dX4_markAbove_32 : decode cX4_markAbove 32 = .ok (.sipush 4800, 3) := by decide +kernel
theorem dX4_markAbove_35 : decode cX4_markAbove 35 = .ok (.if_icmp .ge 9, 3) := by decide +kernel
theorem dX4_markAbove_38 : decode cX4_markAbove 38 = .ok (.sipush 4800, 3) := by decide +kernel
theorem dX4_markAbove_41 : decode cX4_markAbove 41 = .ok (.goto 6, 3) := by decide +kernel
theorem dX4_markAbove_44 : decode cX4_markAbove 44 = .ok (.sipush 5760, 3) := by decide +kernel
theorem dX4_markAbove_47 : decode cX4_markAbove 47 = .ok (.ireturn, 1) := by decide +kernel
theorem dX4_markBelow_0 : decode cX4_markBelow 0 = .ok (.iload_n 1, 1) := by decide +kernel
theorem dX4_markBelow_1 : decode cX4_markBelow 1 = .ok (.sipush 4800, 3) := by decide +kernel
theorem dX4_markBelow_4 : decode cX4_markBelow 4 = .ok (.if_icmp .le 7, 3) := by decide +kernel
theorem dX4_markBelow_7 : decode cX4_markBelow 7 = .ok (.sipush 4800, 3) := by decide +kernel
theorem dX4_markBelow_10 : decode cX4_markBelow 10 = .ok (.ireturn, 1) := by decide +kernel
theorem dX4_markBelow_11 : decode cX4_markBelow 11 = .ok (.iload_n 1, 1) := by decide +kernel
theorem dX4_markBelow_12 : decode cX4_markBelow 12 = .ok (.sipush 1440, 3) := by decide +kernel
theorem dX4_markBelow_15 : decode cX4_markBelow 15 = .ok (.if_icmp .le 7, 3) := by decide +kernel
theorem dX4_markBelow_18 : decode cX4_markBelow 18 = .ok (.sipush 1440, 3) := by decide +kernel
theorem dX4_markBelow_21 : decode cX4_markBelow 21 = .ok (.ireturn, 1) := by decide +kernel
theorem dX4_markBelow_22 : decode cX4_markBelow 22 = .ok (.iload_n 1, 1) := by decide +kernel
theorem dX4_markBelow_23 : decode cX4_markBelow 23 = .ok (.sipush 480, 3) := by decide +kernel
theorem dX4_markBelow_26 : decode cX4_markBelow 26 = .ok (.if_icmp .le 9, 3) := by decide +kernel
theorem dX4_markBelow_29 : decode cX4_markBelow 29 = .ok (.sipush 480, 3) := by decide +kernel
theorem dX4_markBelow_32 : decode cX4_markBelow 32 = .ok (.goto 4, 3) := by decide +kernel
theorem dX4_markBelow_35 : decode cX4_markBelow 35 = .ok (.iconst 0, 1) := by decide +kernel
theorem dX4_markBelow_36 : decode cX4_markBelow 36 = .ok (.ireturn, 1) := by decide +kernel
theorem dX4_goTowards_0 : decode cX4_goTowards 0 = .ok (.iload_n 1, 1) := by decide +kernel
theorem dX4_goTowards_1 : decode cX4_goTowards 1 = .ok (.aload_n 0, 1) := by decide +kernel
theorem dX4_goTowards_2 : decode cX4_goTowards 2 = .ok (.getfield 9, 3) := by decide +kernel
theorem dX4_goTowards_5 : decode cX4_goTowards 5 = .ok (.isub, 1) := by decide +kernel
theorem dX4_goTowards_6 : decode cX4_goTowards 6 = .ok (.iload_n 2, 1) := by decide +kernel
theorem dX4_goTowards_7 : decode cX4_goTowards 7 = .ok (.invokestatic 31, 3) := by decide +kernel
theorem dX4_goTowards_10 : decode cX4_goTowards 10 = .ok (.istore_n 3, 1) := by decide +kernel
theorem dX4_goTowards_11 : decode cX4_goTowards 11 = .ok (.aload_n 0, 1) := by decide +kernel
theorem dX4_goTowards_12 : decode cX4_goTowards 12 = .ok (.getfield 15, 3) := by decide +kernel
theorem dX4_goTowards_15 : decode cX4_goTowards 15 = .ok (.iconst 2, 1) := by decide +kernel
theorem dX4_goTowards_16 : decode cX4_goTowards 16 = .ok (.if_icmp .ne 22, 3) := by decide +kernel
theorem dX4_goTowards_19 : decode cX4_goTowards 19 = .ok (.iload_n 3, 1) := by decide +kernel
theorem dX4_goTowards_20 : decode cX4_goTowards 20 = .ok (.aload_n 0, 1) := by decide +kernel
theorem dX4_goTowards_21 : decode cX4_goTowards 21 = .ok (.getfield 18, 3) := by decide +kernel
theorem dX4_goTowards_24 : decode cX4_goTowards 24 = .ok (.invokestatic 31, 3) := by decide +kernel
theorem dX4_goTowards_27 : decode cX4_goTowards 27 = .ok (.istore_n 3, 1) := by decide +kernel
theorem dX4_goTowards_28 : decode cX4_goTowards 28 = .ok (.aload_n 0, 1) := by decide +kernel
theorem dX4_goTowards_29 : decode cX4_goTowards 29 = .ok (.dup, 1) := by decide +kernel
theorem dX4_goTowards_30 : decode cX4_goTowards 30 = .ok (.getfield 18, 3) := by decide +kernel
theorem dX4_goTowards_33 : decode cX4_goTowards 33 = .ok (.iload_n 3, 1) := by decide +kernel
theorem dX4_goTowards_34 : decode cX4_goTowards 34 = .ok (.isub, 1) := by decide +kernel
theorem dX4_goTowards_35 : decode cX4_goTowards 35 = .ok (.putfield 18, 3) := by decide +kernel
theorem dX4_goTowards_38 : decode cX4_goTowards 38 = .ok (.aload_n 0, 1) := by decide +kernel
theorem dX4_goTowards_39 : decode cX4_goTowards 39 = .ok (.dup, 1) := by decide +kernel
theorem dX4_goTowards_40 : decode cX4_goTowards 40 = .ok (.getfield 9, 3) := by decide +kernel
theorem dX4_goTowards_43 : decode cX4_goTowards 43 = .ok (.iload_n 3, 1) := by decide +kernel
theorem dX4_goTowards_44 : decode cX4_goTowards 44 = .ok (.iadd, 1) := by decide +kernel
theorem dX4_goTowards_45 : decode cX4_goTowards 45 = .ok (.putfield 9, 3) := by decide +kernel
theorem dX4_goTowards_48 : decode cX4_goTowards 48 = .ok (.iload_n 3, 1) := by decide +kernel
theorem dX4_goTowards_49 : decode cX4_goTowards 49 = .ok (.ireturn, 1) := by decide +kernel
set_option maxRecDepth 20000 in
theorem ggX4_standWhenSpent_X4_stand : GoodIn wsX4_standWhenSpent wsX4_stand := goodIn_r _ [7, 1, 2, 8, 9, 10, 11, 12, 13] (by decide +kernel) (by decide +kernel)
set_option maxRecDepth 20000 in
theorem gX4_standWhenSpent_X4_stand : GoodIn wsX4_standWhenSpent (wsV RX4 37 RX4 yX4_stand wsX4_stand) := goodIn_app (goodIn_of _ (by decide +kernel)) ggX4_standWhenSpent_X4_stand
theorem dX4_standWhenSpent_0 : decode cX4_standWhenSpent 0 = .ok (.aload_n 0, 1) := by decide +kernel
theorem dX4_standWhenSpent_1 : decode cX4_standWhenSpent 1 = .ok (.getfield 15, 3) := by decide +kernel
theorem dX4_standWhenSpent_4 : decode cX4_standWhenSpent 4 = .ok (.iconst 2, 1) := by decide +kernel
theorem dX4_standWhenSpent_5 : decode cX4_standWhenSpent 5 = .ok (.if_icmp .ne 14, 3) := by decide +kernel
theorem dX4_standWhenSpent_8 : decode cX4_standWhenSpent 8 = .ok (.aload_n 0, 1) := by decide +kernel
theorem dX4_standWhenSpent_9 : decode cX4_standWhenSpent 9 = .ok (.getfield 18, 3) := by decide +kernel
theorem dX4_standWhenSpent_12 : decode cX4_standWhenSpent 12 = .ok (.ifCond .ne 7, 3) := by decide +kernel
theorem dX4_standWhenSpent_15 : decode cX4_standWhenSpent 15 = .ok (.aload_n 0, 1) := by decide +kernel
theorem dX4_standWhenSpent_16 : decode cX4_standWhenSpent 16 = .ok (.invokevirtual 37, 3) := by decide +kernel
theorem dX4_standWhenSpent_19 : decode cX4_standWhenSpent 19 = .ok (.return_, 1) := by decide +kernel
theorem dX5_init_0 : decode cX5_init 0 = .ok (.aload_n 0, 1) := by decide +kernel
theorem dX5_init_1 : decode cX5_init 1 = .ok (.invokespecial 3, 3) := by decide +kernel
theorem dX5_init_4 : decode cX5_init 4 = .ok (.aload_n 0, 1) := by decide +kernel
theorem dX5_init_5 : decode cX5_init 5 = .ok (.sipush 160, 3) := by decide +kernel
theorem dX5_init_8 : decode cX5_init 8 = .ok (.newarray .int, 2) := by decide +kernel
theorem dX5_init_10 : decode cX5_init 10 = .ok (.putfield 11, 3) := by decide +kernel
theorem dX5_init_13 : decode cX5_init 13 = .ok (.aload_n 0, 1) := by decide +kernel
theorem dX5_init_14 : decode cX5_init 14 = .ok (.iconst 0, 1) := by decide +kernel
theorem dX5_init_15 : decode cX5_init 15 = .ok (.putfield 15, 3) := by decide +kernel
theorem dX5_init_18 : decode cX5_init 18 = .ok (.return_, 1) := by decide +kernel
set_option maxRecDepth 20000 in
theorem ggX5_put_X5_byteOf : GoodIn wsX5_put wsX5_byteOf := goodIn_r _ [5] (by decide +kernel) (by decide +kernel)
set_option maxRecDepth 20000 in
theorem gX5_put_X5_byteOf : GoodIn wsX5_put (va_wsS RX5 19 yX5_byteOf wsX5_byteOf) := goodIn_app (goodIn_of _ (by decide +kernel)) ggX5_put_X5_byteOf
set_option maxRecDepth 20000 in
theorem ggX5_put_X5_add : GoodIn wsX5_put wsX5_add := goodIn_r _ [9, 1, 10, 11, 12] (by decide +kernel) (by decide +kernel)
set_option maxRecDepth 20000 in
theorem gX5_put_X5_add : GoodIn wsX5_put (wsV RX5 23 RX5 yX5_add wsX5_add) := goodIn_app (goodIn_of _ (by decide +kernel)) ggX5_put_X5_add
theorem dX5_put_0 : decode cX5_put 0 = .ok (.iload_n 3, 1) := by decide +kernel
theorem dX5_put_1 : decode cX5_put 1 = .ok (.iconst 1, 1) := by decide +kernel
theorem dX5_put_2 : decode cX5_put 2 = .ok (.if_icmp .lt 21, 3) := by decide +kernel
theorem dX5_put_5 : decode cX5_put 5 = .ok (.iload_n 3, 1) := by decide +kernel
theorem dX5_put_6 : decode cX5_put 6 = .ok (.bipush 8, 2) := by decide +kernel
theorem dX5_put_8 : decode cX5_put 8 = .ok (.if_icmp .gt 15, 3) := by decide +kernel
theorem dX5_put_11 : decode cX5_put 11 = .ok (.aload_n 0, 1) := by decide +kernel
theorem dX5_put_12 : decode cX5_put 12 = .ok (.getfield 15, 3) := by decide +kernel
theorem dX5_put_15 : decode cX5_put 15 = .ok (.iload_n 3, 1) := by decide +kernel
theorem dX5_put_16 : decode cX5_put 16 = .ok (.iadd, 1) := by decide +kernel
theorem dX5_put_17 : decode cX5_put 17 = .ok (.sipush 160, 3) := by decide +kernel
theorem dX5_put_20 : decode cX5_put 20 = .ok (.if_icmp .le 5, 3) := by decide +kernel
theorem dX5_put_23 : decode cX5_put 23 = .ok (.iconst 0, 1) := by decide +kernel
theorem dX5_put_24 : decode cX5_put 24 = .ok (.ireturn, 1) := by decide +kernel
theorem dX5_put_25 : decode cX5_put 25 = .ok (.iconst 0, 1) := by decide +kernel
theorem dX5_put_26 : decode cX5_put 26 = .ok (.istore 4, 2) := by decide +kernel
theorem dX5_put_28 : decode cX5_put 28 = .ok (.iload 4, 2) := by decide +kernel
theorem dX5_put_30 : decode cX5_put 30 = .ok (.iload_n 3, 1) := by decide +kernel
theorem dX5_put_31 : decode cX5_put 31 = .ok (.if_icmp .ge 33, 3) := by decide +kernel
theorem dX5_put_34 : decode cX5_put 34 = .ok (.lload_n 1, 1) := by decide +kernel
theorem dX5_put_35 : decode cX5_put 35 = .ok (.iload 4, 2) := by decide +kernel
theorem dX5_put_37 : decode cX5_put 37 = .ok (.invokestatic 19, 3) := by decide +kernel
theorem dX5_put_40 : decode cX5_put 40 = .ok (.istore 5, 2) := by decide +kernel
theorem dX5_put_42 : decode cX5_put 42 = .ok (.iload 5, 2) := by decide +kernel
theorem dX5_put_44 : decode cX5_put 44 = .ok (.bipush 32, 2) := by decide +kernel
theorem dX5_put_46 : decode cX5_put 46 = .ok (.if_icmp .lt 10, 3) := by decide +kernel
theorem dX5_put_49 : decode cX5_put 49 = .ok (.iload 5, 2) := by decide +kernel
theorem dX5_put_51 : decode cX5_put 51 = .ok (.bipush 126, 2) := by decide +kernel
theorem dX5_put_53 : decode cX5_put 53 = .ok (.if_icmp .le 5, 3) := by decide +kernel
theorem dX5_put_56 : decode cX5_put 56 = .ok (.iconst 0, 1) := by decide +kernel
theorem dX5_put_57 : decode cX5_put 57 = .ok (.ireturn, 1) := by decide +kernel
theorem dX5_put_58 : decode cX5_put 58 = .ok (.iinc 4 1, 3) := by decide +kernel
theorem dX5_put_61 : decode cX5_put 61 = .ok (.goto (-33), 3) := by decide +kernel
theorem dX5_put_64 : decode cX5_put 64 = .ok (.iload_n 3, 1) := by decide +kernel
theorem dX5_put_65 : decode cX5_put 65 = .ok (.iconst 1, 1) := by decide +kernel
theorem dX5_put_66 : decode cX5_put 66 = .ok (.isub, 1) := by decide +kernel
theorem dX5_put_67 : decode cX5_put 67 = .ok (.istore 4, 2) := by decide +kernel
theorem dX5_put_69 : decode cX5_put 69 = .ok (.iload 4, 2) := by decide +kernel
theorem dX5_put_71 : decode cX5_put 71 = .ok (.ifCond .lt 19, 3) := by decide +kernel
theorem dX5_put_74 : decode cX5_put 74 = .ok (.aload_n 0, 1) := by decide +kernel
theorem dX5_put_75 : decode cX5_put 75 = .ok (.lload_n 1, 1) := by decide +kernel
theorem dX5_put_76 : decode cX5_put 76 = .ok (.iload 4, 2) := by decide +kernel
theorem dX5_put_78 : decode cX5_put 78 = .ok (.invokestatic 19, 3) := by decide +kernel
theorem dX5_put_81 : decode cX5_put 81 = .ok (.invokevirtual 23, 3) := by decide +kernel
theorem dX5_put_84 : decode cX5_put 84 = .ok (.iinc 4 (-1), 3) := by decide +kernel
theorem dX5_put_87 : decode cX5_put 87 = .ok (.goto (-18), 3) := by decide +kernel
theorem dX5_put_90 : decode cX5_put 90 = .ok (.iconst 1, 1) := by decide +kernel
theorem dX5_put_91 : decode cX5_put 91 = .ok (.ireturn, 1) := by decide +kernel
theorem dX5_charOf_0 : decode cX5_charOf 0 = .ok (.iload_n 1, 1) := by decide +kernel
theorem dX5_charOf_1 : decode cX5_charOf 1 = .ok (.ifCond .lt 20, 3) := by decide +kernel
theorem dX5_charOf_4 : decode cX5_charOf 4 = .ok (.iload_n 1, 1) := by decide +kernel
theorem dX5_charOf_5 : decode cX5_charOf 5 = .ok (.aload_n 0, 1) := by decide +kernel
theorem dX5_charOf_6 : decode cX5_charOf 6 = .ok (.getfield 15, 3) := by decide +kernel
theorem dX5_charOf_9 : decode cX5_charOf 9 = .ok (.if_icmp .ge 12, 3) := by decide +kernel
theorem dX5_charOf_12 : decode cX5_charOf 12 = .ok (.aload_n 0, 1) := by decide +kernel
theorem dX5_charOf_13 : decode cX5_charOf 13 = .ok (.getfield 11, 3) := by decide +kernel
theorem dX5_charOf_16 : decode cX5_charOf 16 = .ok (.iload_n 1, 1) := by decide +kernel
theorem dX5_charOf_17 : decode cX5_charOf 17 = .ok (.iaload, 1) := by decide +kernel
theorem dX5_charOf_18 : decode cX5_charOf 18 = .ok (.goto 4, 3) := by decide +kernel
theorem dX5_charOf_21 : decode cX5_charOf 21 = .ok (.iconst (-1), 1) := by decide +kernel
theorem dX5_charOf_22 : decode cX5_charOf 22 = .ok (.ireturn, 1) := by decide +kernel
set_option maxRecDepth 20000 in
theorem ggX5_behindBlanks_X5_charOf : GoodIn wsX5_behindBlanks wsX5_charOf := goodIn_r _ [5, 6, 7, 8, 9] (by decide +kernel) (by decide +kernel)
set_option maxRecDepth 20000 in
theorem gX5_behindBlanks_X5_charOf : GoodIn wsX5_behindBlanks (wsV RX5 27 RX5 yX5_charOf wsX5_charOf) := goodIn_app (goodIn_of _ (by decide +kernel)) ggX5_behindBlanks_X5_charOf
theorem dX5_behindBlanks_0 : decode cX5_behindBlanks 0 = .ok (.iload_n 1, 1) := by decide +kernel
theorem dX5_behindBlanks_1 : decode cX5_behindBlanks 1 = .ok (.istore_n 2, 1) := by decide +kernel
theorem dX5_behindBlanks_2 : decode cX5_behindBlanks 2 = .ok (.iconst 0, 1) := by decide +kernel
theorem dX5_behindBlanks_3 : decode cX5_behindBlanks 3 = .ok (.istore_n 3, 1) := by decide +kernel
theorem dX5_behindBlanks_4 : decode cX5_behindBlanks 4 = .ok (.iload_n 3, 1) := by decide +kernel
theorem dX5_behindBlanks_5 : decode cX5_behindBlanks 5 = .ok (.sipush 160, 3) := by decide +kernel
theorem dX5_behindBlanks_8 : decode cX5_behindBlanks 8 = .ok (.if_icmp .ge 22, 3) := by decide +kernel
theorem dX5_behindBlanks_11 : decode cX5_behindBlanks 11 = .ok (.aload_n 0, 1) := by decide +kernel
theorem dX5_behindBlanks_12 : decode cX5_behindBlanks 12 = .ok (.iload_n 2, 1) := by decide +kernel
theorem dX5_behindBlanks_13 : decode cX5_behindBlanks 13 = .ok (.invokevirtual 27, 3) := by decide +kernel
theorem dX5_behindBlanks_16 : decode cX5_behindBlanks 16 = .ok (.bipush 32, 2) := by decide +kernel
theorem dX5_behindBlanks_18 : decode cX5_behindBlanks 18 = .ok (.if_icmp .ne 12, 3) := by decide +kernel
theorem dX5_behindBlanks_21 : decode cX5_behindBlanks 21 = .ok (.iinc 2 1, 3) := by decide +kernel
theorem dX5_behindBlanks_24 : decode cX5_behindBlanks 24 = .ok (.iinc 3 1, 3) := by decide +kernel
theorem dX5_behindBlanks_27 : decode cX5_behindBlanks 27 = .ok (.goto (-23), 3) := by decide +kernel
theorem dX5_behindBlanks_30 : decode cX5_behindBlanks 30 = .ok (.iload_n 2, 1) := by decide +kernel
theorem dX5_behindBlanks_31 : decode cX5_behindBlanks 31 = .ok (.ireturn, 1) := by decide +kernel
theorem dX5_clear_0 : decode cX5_clear 0 = .ok (.aload_n 0, 1) := by decide +kernel
theorem dX5_clear_1 : decode cX5_clear 1 = .ok (.iconst 0, 1) := by decide +kernel
theorem dX5_clear_2 : decode cX5_clear 2 = .ok (.putfield 15, 3) := by decide +kernel
theorem dX5_clear_5 : decode cX5_clear 5 = .ok (.return_, 1) := by decide +kernel
theorem dX5_add_0 : decode cX5_add 0 = .ok (.aload_n 0, 1) := by decide +kernel
theorem dX5_add_1 : decode cX5_add 1 = .ok (.getfield 15, 3) := by decide +kernel
theorem dX5_add_4 : decode cX5_add 4 = .ok (.ifCond .lt 33, 3) := by decide +kernel
theorem dX5_add_7 : decode cX5_add 7 = .ok (.aload_n 0, 1) := by decide +kernel
theorem dX5_add_8 : decode cX5_add 8 = .ok (.getfield 15, 3) := by decide +kernel
theorem dX5_add_11 : decode cX5_add 11 = .ok (.sipush 160, 3) := by decide +kernel
theorem dX5_add_14 : decode cX5_add 14 = .ok (.if_icmp .ge 23, 3) := by decide +kernel
theorem dX5_add_17 : decode cX5_add 17 = .ok (.aload_n 0, 1) := by decide +kernel
theorem dX5_add_18 : decode cX5_add 18 = .ok (.getfield 11, 3) := by decide +kernel
theorem dX5_add_21 : decode cX5_add 21 = .ok (.aload_n 0, 1) := by decide +kernel
theorem dX5_add_22 : decode cX5_add 22 = .ok (.getfield 15, 3) := by decide +kernel
theorem dX5_add_25 : decode cX5_add 25 = .ok (.iload_n 1, 1) := by decide +kernel
theorem dX5_add_26 : decode cX5_add 26 = .ok (.iastore, 1) := by decide +kernel
theorem dX5_add_27 : decode cX5_add 27 = .ok (.aload_n 0, 1) := by decide +kernel
theorem dX5_add_28 : decode cX5_add 28 = .ok (.dup, 1) := by decide +kernel
theorem dX5_add_29 : decode cX5_add 29 = .ok (.getfield 15, 3) := by decide +kernel
theorem dX5_add_32 : decode cX5_add 32 = .ok (.iconst 1, 1) := by decide +kernel
theorem dX5_add_33 : decode cX5_add 33 = .ok (.iadd, 1) := by decide +kernel
theorem dX5_add_34 : decode cX5_add 34 = .ok (.putfield 15, 3) := by decide +kernel
theorem dX5_add_37 : decode cX5_add 37 = .ok (.return_, 1) := by decide +kernel
theorem dX5_byteOf_0 : decode cX5_byteOf 0 = .ok (.lload_n 0, 1) := by decide +kernel
theorem dX5_byteOf_1 : decode cX5_byteOf 1 = .ok (.bipush 8, 2) := by decide +kernel
theorem dX5_byteOf_3 : decode cX5_byteOf 3 = .ok (.iload_n 2, 1) := by decide +kernel
theorem dX5_byteOf_4 : decode cX5_byteOf 4 = .ok (.imul, 1) := by decide +kernel
theorem dX5_byteOf_5 : decode cX5_byteOf 5 = .ok (.lushr, 1) := by decide +kernel
theorem dX5_byteOf_6 : decode cX5_byteOf 6 = .ok (.l2i, 1) := by decide +kernel
theorem dX5_byteOf_7 : decode cX5_byteOf 7 = .ok (.sipush 255, 3) := by decide +kernel
theorem dX5_byteOf_10 : decode cX5_byteOf 10 = .ok (.iand, 1) := by decide +kernel
theorem dX5_byteOf_11 : decode cX5_byteOf 11 = .ok (.ireturn, 1) := by decide +kernel
set_option maxRecDepth 20000 in
theorem ggX6_init_X2_init : GoodIn wsX6_init wsX2_init := goodIn_r _ [33, 34, 2, 3, 35, 36, 37, 38, 39, 21, 22, 40, 41, 42, 43, 44, 45, 46, 47, 48, 49, 50, 51, 52, 53, 54, 55, 56, 57, 58, 59, 60, 61, 62, 63, 64, 65, 66, 67, 68, 69, 70, 148, 149, 100, 101, 102, 103, 104, 105, 106, 107, 108, 137, 138, 139, 140, 141, 142, 143, 144, 145, 146, 147] (by decide +kernel) (by decide +kernel)
set_option maxRecDepth 20000 in
theorem gX6_init_X2_init : GoodIn wsX6_init (wsX2_init) := ggX6_init_X2_init
set_option maxRecDepth 20000 in
theorem ggX6_init_X4_init : GoodIn wsX6_init wsX4_init := goodIn_r _ [73, 74, 2, 3, 75, 76, 77, 78, 79, 80, 121, 122, 123, 124, 125, 126] (by decide +kernel) (by decide +kernel)
set_option maxRecDepth 20000 in
theorem gX6_init_X4_init : GoodIn wsX6_init (wsX4_init) := ggX6_init_X4_init
set_option maxRecDepth 20000 in
theorem ggX6_init_X0_init : GoodIn wsX6_init wsX0_init := goodIn_r _ [83, 84, 2, 3, 44, 85, 86, 87, 88, 89, 90, 91, 127, 128, 129, 130, 131, 132, 133] (by decide +kernel) (by decide +kernel)
set_option maxRecDepth 20000 in
theorem gX6_init_X0_init : GoodIn wsX6_init (wsX0_init) := ggX6_init_X0_init
set_option maxRecDepth 20000 in
theorem ggX6_init_X3_init : GoodIn wsX6_init wsX3_init := goodIn_r _ [94, 95, 2, 3, 44, 96, 46, 97, 98, 134, 135, 136] (by decide +kernel) (by decide +kernel)
set_option maxRecDepth 20000 in
theorem gX6_init_X3_init : GoodIn wsX6_init (wsX3_init) := ggX6_init_X3_init
set_option maxRecDepth 20000 in
theorem ggX6_init_X1_init : GoodIn wsX6_init wsX1_init := goodIn_r _ [58, 59, 2, 3, 44, 60, 61, 62, 46, 63, 64, 65, 66, 67, 68, 69, 70, 137, 138, 139, 140, 141, 142, 143, 144, 145, 146, 147] (by decide +kernel) (by decide +kernel)
set_option maxRecDepth 20000 in
theorem gX6_init_X1_init : GoodIn wsX6_init (wsX1_init) := ggX6_init_X1_init
