theorem dX5_init_0 : decode cX5_init 0 = .ok (.aload_n 0, 1) := by decide +kernel
theorem dX5_init_1 : decode cX5_init 1 = .ok (.invokespecial 1, 3) := by decide +kernel
theorem dX5_init_4 : decode cX5_init 4 = .ok (.aload_n 0, 1) := by decide +kernel
theorem dX5_init_5 : decode cX5_init 5 = .ok (.sipush 2128, 3) := by decide +kernel
theorem dX5_init_8 : decode cX5_init 8 = .ok (.newarray .int, 2) := by decide +kernel
theorem dX5_init_10 : decode cX5_init 10 = .ok (.putfield 7, 3) := by decide +kernel
theorem dX5_init_13 : decode cX5_init 13 = .ok (.aload_n 0, 1) := by decide +kernel
theorem dX5_init_14 : decode cX5_init 14 = .ok (.sipush 2128, 3) := by decide +kernel
theorem dX5_init_17 : decode cX5_init 17 = .ok (.newarray .int, 2) := by decide +kernel
theorem dX5_init_19 : decode cX5_init 19 = .ok (.putfield 13, 3) := by decide +kernel
theorem dX5_init_22 : decode cX5_init 22 = .ok (.aload_n 0, 1) := by decide +kernel
theorem dX5_init_23 : decode cX5_init 23 = .ok (.ldc 16, 2) := by decide +kernel
theorem dX5_init_25 : decode cX5_init 25 = .ok (.newarray .int, 2) := by decide +kernel
theorem dX5_init_27 : decode cX5_init 27 = .ok (.putfield 17, 3) := by decide +kernel
theorem dX5_init_30 : decode cX5_init 30 = .ok (.aload_n 0, 1) := by decide +kernel
theorem dX5_init_31 : decode cX5_init 31 = .ok (.sipush 320, 3) := by decide +kernel
theorem dX5_init_34 : decode cX5_init 34 = .ok (.newarray .int, 2) := by decide +kernel
theorem dX5_init_36 : decode cX5_init 36 = .ok (.putfield 20, 3) := by decide +kernel
theorem dX5_init_39 : decode cX5_init 39 = .ok (.iconst 0, 1) := by decide +kernel
theorem dX5_init_40 : decode cX5_init 40 = .ok (.istore_n 1, 1) := by decide +kernel
theorem dX5_init_41 : decode cX5_init 41 = .ok (.iload_n 1, 1) := by decide +kernel
theorem dX5_init_42 : decode cX5_init 42 = .ok (.sipush 256, 3) := by decide +kernel
theorem dX5_init_45 : decode cX5_init 45 = .ok (.if_icmp .ge 21, 3) := by decide +kernel
theorem dX5_init_48 : decode cX5_init 48 = .ok (.aload_n 0, 1) := by decide +kernel
theorem dX5_init_49 : decode cX5_init 49 = .ok (.getfield 7, 3) := by decide +kernel
theorem dX5_init_52 : decode cX5_init 52 = .ok (.sipush 1832, 3) := by decide +kernel
theorem dX5_init_55 : decode cX5_init 55 = .ok (.iload_n 1, 1) := by decide +kernel
theorem dX5_init_56 : decode cX5_init 56 = .ok (.iadd, 1) := by decide +kernel
theorem dX5_init_57 : decode cX5_init 57 = .ok (.bipush (-4), 2) := by decide +kernel
theorem dX5_init_59 : decode cX5_init 59 = .ok (.iastore, 1) := by decide +kernel
theorem dX5_init_60 : decode cX5_init 60 = .ok (.iinc 1 1, 3) := by decide +kernel
theorem dX5_init_63 : decode cX5_init 63 = .ok (.goto (-22), 3) := by decide +kernel
theorem dX5_init_66 : decode cX5_init 66 = .ok (.return_, 1) := by decide +kernel
theorem dX5_in_0 : decode cX5_in 0 = .ok (.lload_n 0, 1) := by decide +kernel
theorem dX5_in_1 : decode cX5_in 1 = .ok (.lload_n 2, 1) := by decide +kernel
theorem dX5_in_2 : decode cX5_in 2 = .ok (.lcmp, 1) := by decide +kernel
theorem dX5_in_3 : decode cX5_in 3 = .ok (.ifCond .lt 14, 3) := by decide +kernel
theorem dX5_in_6 : decode cX5_in 6 = .ok (.lload_n 0, 1) := by decide +kernel
theorem dX5_in_7 : decode cX5_in 7 = .ok (.lload 4, 2) := by decide +kernel
theorem dX5_in_9 : decode cX5_in 9 = .ok (.lcmp, 1) := by decide +kernel
theorem dX5_in_10 : decode cX5_in 10 = .ok (.ifCond .gt 7, 3) := by decide +kernel
theorem dX5_in_13 : decode cX5_in 13 = .ok (.iconst 1, 1) := by decide +kernel
theorem dX5_in_14 : decode cX5_in 14 = .ok (.goto 4, 3) := by decide +kernel
theorem dX5_in_17 : decode cX5_in 17 = .ok (.iconst 0, 1) := by decide +kernel
theorem dX5_in_18 : decode cX5_in 18 = .ok (.ireturn, 1) := by decide +kernel
set_option maxRecDepth 20000 in
theorem ggX5_isRegister_X5_in : GoodIn wsX5_isRegister wsX5_in := goodIn_r _ [5] (by decide +kernel) (by decide +kernel)
set_option maxRecDepth 20000 in
theorem gX5_isRegister_X5_in : GoodIn wsX5_isRegister (va_wsS RX5 25 yX5_in wsX5_in) := goodIn_app (goodIn_of _ (by decide +kernel)) ggX5_isRegister_X5_in
theorem dX5_isRegister_0 : decode cX5_isRegister 0 = .ok (.iload_n 0, 1) := by decide +kernel
theorem dX5_isRegister_1 : decode cX5_isRegister 1 = .ok (.i2l, 1) := by decide +kernel
theorem dX5_isRegister_2 : decode cX5_isRegister 2 = .ok (.lconst 0, 1) := by decide +kernel
theorem dX5_isRegister_3 : decode cX5_isRegister 3 = .ok (.ldc2_w 23, 3) := by decide +kernel
theorem dX5_isRegister_6 : decode cX5_isRegister 6 = .ok (.invokestatic 25, 3) := by decide +kernel
theorem dX5_isRegister_9 : decode cX5_isRegister 9 = .ok (.ireturn, 1) := by decide +kernel
theorem dX5_reg_0 : decode cX5_reg 0 = .ok (.sipush 1280, 3) := by decide +kernel
theorem dX5_reg_3 : decode cX5_reg 3 = .ok (.iconst 5, 1) := by decide +kernel
theorem dX5_reg_4 : decode cX5_reg 4 = .ok (.iload_n 0, 1) := by decide +kernel
theorem dX5_reg_5 : decode cX5_reg 5 = .ok (.imul, 1) := by decide +kernel
theorem dX5_reg_6 : decode cX5_reg 6 = .ok (.iadd, 1) := by decide +kernel
theorem dX5_reg_7 : decode cX5_reg 7 = .ok (.ireturn, 1) := by decide +kernel
theorem dX5_begin_0 : decode cX5_begin 0 = .ok (.iconst 0, 1) := by decide +kernel
theorem dX5_begin_1 : decode cX5_begin 1 = .ok (.istore_n 1, 1) := by decide +kernel
theorem dX5_begin_2 : decode cX5_begin 2 = .ok (.iload_n 1, 1) := by decide +kernel
theorem dX5_begin_3 : decode cX5_begin 3 = .ok (.sipush 2128, 3) := by decide +kernel
theorem dX5_begin_6 : decode cX5_begin 6 = .ok (.if_icmp .ge 21, 3) := by decide +kernel
theorem dX5_begin_9 : decode cX5_begin 9 = .ok (.aload_n 0, 1) := by decide +kernel
theorem dX5_begin_10 : decode cX5_begin 10 = .ok (.getfield 13, 3) := by decide +kernel
theorem dX5_begin_13 : decode cX5_begin 13 = .ok (.iload_n 1, 1) := by decide +kernel
theorem dX5_begin_14 : decode cX5_begin 14 = .ok (.aload_n 0, 1) := by decide +kernel
theorem dX5_begin_15 : decode cX5_begin 15 = .ok (.getfield 7, 3) := by decide +kernel
theorem dX5_begin_18 : decode cX5_begin 18 = .ok (.iload_n 1, 1) := by decide +kernel
theorem dX5_begin_19 : decode cX5_begin 19 = .ok (.iaload, 1) := by decide +kernel
theorem dX5_begin_20 : decode cX5_begin 20 = .ok (.iastore, 1) := by decide +kernel
theorem dX5_begin_21 : decode cX5_begin 21 = .ok (.iinc 1 1, 3) := by decide +kernel
theorem dX5_begin_24 : decode cX5_begin 24 = .ok (.goto (-22), 3) := by decide +kernel
theorem dX5_begin_27 : decode cX5_begin 27 = .ok (.return_, 1) := by decide +kernel
theorem dX5_keeps_0 : decode cX5_keeps 0 = .ok (.aload_n 0, 1) := by decide +kernel
theorem dX5_keeps_1 : decode cX5_keeps 1 = .ok (.getfield 29, 3) := by decide +kernel
theorem dX5_keeps_4 : decode cX5_keeps 4 = .ok (.bipush 24, 2) := by decide +kernel
theorem dX5_keeps_6 : decode cX5_keeps 6 = .ok (.if_icmp .ne 43, 3) := by decide +kernel
theorem dX5_keeps_9 : decode cX5_keeps 9 = .ok (.iconst 0, 1) := by decide +kernel
theorem dX5_keeps_10 : decode cX5_keeps 10 = .ok (.istore_n 2, 1) := by decide +kernel
theorem dX5_keeps_11 : decode cX5_keeps 11 = .ok (.iload_n 2, 1) := by decide +kernel
theorem dX5_keeps_12 : decode cX5_keeps 12 = .ok (.ldc 33, 2) := by decide +kernel
theorem dX5_keeps_14 : decode cX5_keeps 14 = .ok (.if_icmp .ge 25, 3) := by decide +kernel
theorem dX5_keeps_17 : decode cX5_keeps 17 = .ok (.aload_n 0, 1) := by decide +kernel
theorem dX5_keeps_18 : decode cX5_keeps 18 = .ok (.getfield 17, 3) := by decide +kernel
theorem dX5_keeps_21 : decode cX5_keeps 21 = .ok (.iload_n 2, 1) := by decide +kernel
theorem dX5_keeps_22 : decode cX5_keeps 22 = .ok (.aload_n 0, 1) := by decide +kernel
theorem dX5_keeps_23 : decode cX5_keeps 23 = .ok (.getfield 17, 3) := by decide +kernel
theorem dX5_keeps_26 : decode cX5_keeps 26 = .ok (.iload_n 2, 1) := by decide +kernel
theorem dX5_keeps_27 : decode cX5_keeps 27 = .ok (.sipush 2128, 3) := by decide +kernel
theorem dX5_keeps_30 : decode cX5_keeps 30 = .ok (.iadd, 1) := by decide +kernel
theorem dX5_keeps_31 : decode cX5_keeps 31 = .ok (.iaload, 1) := by decide +kernel
theorem dX5_keeps_32 : decode cX5_keeps 32 = .ok (.iastore, 1) := by decide +kernel
theorem dX5_keeps_33 : decode cX5_keeps 33 = .ok (.iinc 2 1, 3) := by decide +kernel
theorem dX5_keeps_36 : decode cX5_keeps 36 = .ok (.goto (-25), 3) := by decide +kernel
theorem dX5_keeps_39 : decode cX5_keeps 39 = .ok (.aload_n 0, 1) := by decide +kernel
theorem dX5_keeps_40 : decode cX5_keeps 40 = .ok (.dup, 1) := by decide +kernel
theorem dX5_keeps_41 : decode cX5_keeps 41 = .ok (.getfield 29, 3) := by decide +kernel
theorem dX5_keeps_44 : decode cX5_keeps 44 = .ok (.iconst 1, 1) := by decide +kernel
theorem dX5_keeps_45 : decode cX5_keeps 45 = .ok (.isub, 1) := by decide +kernel
theorem dX5_keeps_46 : decode cX5_keeps 46 = .ok (.putfield 29, 3) := by decide +kernel
theorem dX5_keeps_49 : decode cX5_keeps 49 = .ok (.iconst 0, 1) := by decide +kernel
theorem dX5_keeps_50 : decode cX5_keeps 50 = .ok (.istore_n 2, 1) := by decide +kernel
theorem dX5_keeps_51 : decode cX5_keeps 51 = .ok (.iload_n 2, 1) := by decide +kernel
theorem dX5_keeps_52 : decode cX5_keeps 52 = .ok (.sipush 2128, 3) := by decide +kernel
theorem dX5_keeps_55 : decode cX5_keeps 55 = .ok (.if_icmp .ge 30, 3) := by decide +kernel
theorem dX5_keeps_58 : decode cX5_keeps 58 = .ok (.aload_n 0, 1) := by decide +kernel
theorem dX5_keeps_59 : decode cX5_keeps 59 = .ok (.getfield 17, 3) := by decide +kernel
theorem dX5_keeps_62 : decode cX5_keeps 62 = .ok (.sipush 2128, 3) := by decide +kernel
theorem dX5_keeps_65 : decode cX5_keeps 65 = .ok (.aload_n 0, 1) := by decide +kernel
theorem dX5_keeps_66 : decode cX5_keeps 66 = .ok (.getfield 29, 3) := by decide +kernel
theorem dX5_keeps_69 : decode cX5_keeps 69 = .ok (.imul, 1) := by decide +kernel
theorem dX5_keeps_70 : decode cX5_keeps 70 = .ok (.iload_n 2, 1) := by decide +kernel
theorem dX5_keeps_71 : decode cX5_keeps 71 = .ok (.iadd, 1) := by decide +kernel
theorem dX5_keeps_72 : decode cX5_keeps 72 = .ok (.aload_n 0, 1) := by decide +kernel
theorem dX5_keeps_73 : decode cX5_keeps 73 = .ok (.getfield 13, 3) := by decide +kernel
theorem dX5_keeps_76 : decode cX5_keeps 76 = .ok (.iload_n 2, 1) := by decide +kernel
theorem dX5_keeps_77 : decode cX5_keeps 77 = .ok (.iaload, 1) := by decide +kernel
theorem dX5_keeps_78 : decode cX5_keeps 78 = .ok (.iastore, 1) := by decide +kernel
theorem dX5_keeps_79 : decode cX5_keeps 79 = .ok (.iinc 2 1, 3) := by decide +kernel
theorem dX5_keeps_82 : decode cX5_keeps 82 = .ok (.goto (-31), 3) := by decide +kernel
theorem dX5_keeps_85 : decode cX5_keeps 85 = .ok (.aload_n 0, 1) := by decide +kernel
theorem dX5_keeps_86 : decode cX5_keeps 86 = .ok (.dup, 1) := by decide +kernel
theorem dX5_keeps_87 : decode cX5_keeps 87 = .ok (.getfield 29, 3) := by decide +kernel
theorem dX5_keeps_90 : decode cX5_keeps 90 = .ok (.iconst 1, 1) := by decide +kernel
theorem dX5_keeps_91 : decode cX5_keeps 91 = .ok (.iadd, 1) := by decide +kernel
theorem dX5_keeps_92 : decode cX5_keeps 92 = .ok (.putfield 29, 3) := by decide +kernel
theorem dX5_keeps_95 : decode cX5_keeps 95 = .ok (.iload_n 1, 1) := by decide +kernel
theorem dX5_keeps_96 : decode cX5_keeps 96 = .ok (.ireturn, 1) := by decide +kernel
theorem dX5_undo_0 : decode cX5_undo 0 = .ok (.aload_n 0, 1) := by decide +kernel
theorem dX5_undo_1 : decode cX5_undo 1 = .ok (.getfield 29, 3) := by decide +kernel
theorem dX5_undo_4 : decode cX5_undo 4 = .ok (.ifCond .ne 6, 3) := by decide +kernel
theorem dX5_undo_7 : decode cX5_undo 7 = .ok (.bipush (-2), 2) := by decide +kernel
theorem dX5_undo_9 : decode cX5_undo 9 = .ok (.ireturn, 1) := by decide +kernel
theorem dX5_undo_10 : decode cX5_undo 10 = .ok (.aload_n 0, 1) := by decide +kernel
theorem dX5_undo_11 : decode cX5_undo 11 = .ok (.dup, 1) := by decide +kernel
theorem dX5_undo_12 : decode cX5_undo 12 = .ok (.getfield 29, 3) := by decide +kernel
theorem dX5_undo_15 : decode cX5_undo 15 = .ok (.iconst 1, 1) := by decide +kernel
theorem dX5_undo_16 : decode cX5_undo 16 = .ok (.isub, 1) := by decide +kernel
theorem dX5_undo_17 : decode cX5_undo 17 = .ok (.putfield 29, 3) := by decide +kernel
theorem dX5_undo_20 : decode cX5_undo 20 = .ok (.iconst 0, 1) := by decide +kernel
theorem dX5_undo_21 : decode cX5_undo 21 = .ok (.istore_n 1, 1) := by decide +kernel
theorem dX5_undo_22 : decode cX5_undo 22 = .ok (.iload_n 1, 1) := by decide +kernel
theorem dX5_undo_23 : decode cX5_undo 23 = .ok (.sipush 2128, 3) := by decide +kernel
theorem dX5_undo_26 : decode cX5_undo 26 = .ok (.if_icmp .ge 30, 3) := by decide +kernel
theorem dX5_undo_29 : decode cX5_undo 29 = .ok (.aload_n 0, 1) := by decide +kernel
theorem dX5_undo_30 : decode cX5_undo 30 = .ok (.getfield 7, 3) := by decide +kernel
theorem dX5_undo_33 : decode cX5_undo 33 = .ok (.iload_n 1, 1) := by decide +kernel
theorem dX5_undo_34 : decode cX5_undo 34 = .ok (.aload_n 0, 1) := by decide +kernel
theorem dX5_undo_35 : decode cX5_undo 35 = .ok (.getfield 17, 3) := by decide +kernel
theorem dX5_undo_38 : decode cX5_undo 38 = .ok (.sipush 2128, 3) := by decide +kernel
theorem dX5_undo_41 : decode cX5_undo 41 = .ok (.aload_n 0, 1) := by decide +kernel
theorem dX5_undo_42 : decode cX5_undo 42 = .ok (.getfield 29, 3) := by decide +kernel
theorem dX5_undo_45 : decode cX5_undo 45 = .ok (.imul, 1) := by decide +kernel
theorem dX5_undo_46 : decode cX5_undo 46 = .ok (.iload_n 1, 1) := by decide +kernel
theorem dX5_undo_47 : decode cX5_undo 47 = .ok (.iadd, 1) := by decide +kernel
theorem dX5_undo_48 : decode cX5_undo 48 = .ok (.iaload, 1) := by decide +kernel
theorem dX5_undo_49 : decode cX5_undo 49 = .ok (.iastore, 1) := by decide +kernel
theorem dX5_undo_50 : decode cX5_undo 50 = .ok (.iinc 1 1, 3) := by decide +kernel
theorem dX5_undo_53 : decode cX5_undo 53 = .ok (.goto (-31), 3) := by decide +kernel
theorem dX5_undo_56 : decode cX5_undo 56 = .ok (.iconst 1, 1) := by decide +kernel
theorem dX5_undo_57 : decode cX5_undo 57 = .ok (.ireturn, 1) := by decide +kernel
theorem dX5_set_0 : decode cX5_set 0 = .ok (.aload_n 0, 1) := by decide +kernel
theorem dX5_set_1 : decode cX5_set 1 = .ok (.getfield 7, 3) := by decide +kernel
theorem dX5_set_4 : decode cX5_set 4 = .ok (.iload_n 1, 1) := by decide +kernel
theorem dX5_set_5 : decode cX5_set 5 = .ok (.iconst 0, 1) := by decide +kernel
theorem dX5_set_6 : decode cX5_set 6 = .ok (.iadd, 1) := by decide +kernel
theorem dX5_set_7 : decode cX5_set 7 = .ok (.iload_n 2, 1) := by decide +kernel
theorem dX5_set_8 : decode cX5_set 8 = .ok (.iastore, 1) := by decide +kernel
theorem dX5_set_9 : decode cX5_set 9 = .ok (.aload_n 0, 1) := by decide +kernel
theorem dX5_set_10 : decode cX5_set 10 = .ok (.getfield 7, 3) := by decide +kernel
theorem dX5_set_13 : decode cX5_set 13 = .ok (.iload_n 1, 1) := by decide +kernel
theorem dX5_set_14 : decode cX5_set 14 = .ok (.iconst 1, 1) := by decide +kernel
theorem dX5_set_15 : decode cX5_set 15 = .ok (.iadd, 1) := by decide +kernel
theorem dX5_set_16 : decode cX5_set 16 = .ok (.iload_n 3, 1) := by decide +kernel
theorem dX5_set_17 : decode cX5_set 17 = .ok (.iastore, 1) := by decide +kernel
theorem dX5_set_18 : decode cX5_set 18 = .ok (.aload_n 0, 1) := by decide +kernel
theorem dX5_set_19 : decode cX5_set 19 = .ok (.getfield 7, 3) := by decide +kernel
theorem dX5_set_22 : decode cX5_set 22 = .ok (.iload_n 1, 1) := by decide +kernel
theorem dX5_set_23 : decode cX5_set 23 = .ok (.iconst 2, 1) := by decide +kernel
theorem dX5_set_24 : decode cX5_set 24 = .ok (.iadd, 1) := by decide +kernel
theorem dX5_set_25 : decode cX5_set 25 = .ok (.iload 4, 2) := by decide +kernel
theorem dX5_set_27 : decode cX5_set 27 = .ok (.iastore, 1) := by decide +kernel
theorem dX5_set_28 : decode cX5_set 28 = .ok (.aload_n 0, 1) := by decide +kernel
theorem dX5_set_29 : decode cX5_set 29 = .ok (.getfield 7, 3) := by decide +kernel
theorem dX5_set_32 : decode cX5_set 32 = .ok (.iload_n 1, 1) := by decide +kernel
theorem dX5_set_33 : decode cX5_set 33 = .ok (.iconst 3, 1) := by decide +kernel
theorem dX5_set_34 : decode cX5_set 34 = .ok (.iadd, 1) := by decide +kernel
theorem dX5_set_35 : decode cX5_set 35 = .ok (.iload 5, 2) := by decide +kernel
theorem dX5_set_37 : decode cX5_set 37 = .ok (.iastore, 1) := by decide +kernel
theorem dX5_set_38 : decode cX5_set 38 = .ok (.aload_n 0, 1) := by decide +kernel
theorem dX5_set_39 : decode cX5_set 39 = .ok (.getfield 7, 3) := by decide +kernel
theorem dX5_set_42 : decode cX5_set 42 = .ok (.iload_n 1, 1) := by decide +kernel
theorem dX5_set_43 : decode cX5_set 43 = .ok (.iconst 4, 1) := by decide +kernel
theorem dX5_set_44 : decode cX5_set 44 = .ok (.iadd, 1) := by decide +kernel
theorem dX5_set_45 : decode cX5_set 45 = .ok (.iload 6, 2) := by decide +kernel
theorem dX5_set_47 : decode cX5_set 47 = .ok (.iastore, 1) := by decide +kernel
theorem dX5_set_48 : decode cX5_set 48 = .ok (.return_, 1) := by decide +kernel
set_option maxRecDepth 20000 in
theorem ggX5_untag_X5_set : GoodIn wsX5_untag wsX5_set := goodIn_r _ [6, 1, 7, 8, 9, 10, 11] (by decide +kernel) (by decide +kernel)
set_option maxRecDepth 20000 in
theorem gX5_untag_X5_set : GoodIn wsX5_untag (wsV RX5 34 RX5 yX5_set wsX5_set) := goodIn_app (goodIn_of _ (by decide +kernel)) ggX5_untag_X5_set
theorem dX5_untag_0 : decode cX5_untag 0 = .ok (.aload_n 0, 1) := by decide +kernel
theorem dX5_untag_1 : decode cX5_untag 1 = .ok (.iload_n 1, 1) := by decide +kernel
theorem dX5_untag_2 : decode cX5_untag 2 = .ok (.iconst 0, 1) := by decide +kernel
theorem dX5_untag_3 : decode cX5_untag 3 = .ok (.iload_n 2, 1) := by decide +kernel
theorem dX5_untag_4 : decode cX5_untag 4 = .ok (.ifCond .eq 14, 3) := by decide +kernel
theorem dX5_untag_7 : decode cX5_untag 7 = .ok (.aload_n 0, 1) := by decide +kernel
theorem dX5_untag_8 : decode cX5_untag 8 = .ok (.getfield 7, 3) := by decide +kernel
theorem dX5_untag_11 : decode cX5_untag 11 = .ok (.iload_n 1, 1) := by decide +kernel
theorem dX5_untag_12 : decode cX5_untag 12 = .ok (.iconst 1, 1) := by decide +kernel
theorem dX5_untag_13 : decode cX5_untag 13 = .ok (.iadd, 1) := by decide +kernel
theorem dX5_untag_14 : decode cX5_untag 14 = .ok (.iaload, 1) := by decide +kernel
theorem dX5_untag_15 : decode cX5_untag 15 = .ok (.goto 4, 3) := by decide +kernel
theorem dX5_untag_18 : decode cX5_untag 18 = .ok (.iconst 0, 1) := by decide +kernel
theorem dX5_untag_19 : decode cX5_untag 19 = .ok (.iconst 0, 1) := by decide +kernel
theorem dX5_untag_20 : decode cX5_untag 20 = .ok (.iconst 0, 1) := by decide +kernel
theorem dX5_untag_21 : decode cX5_untag 21 = .ok (.iconst 0, 1) := by decide +kernel
theorem dX5_untag_22 : decode cX5_untag 22 = .ok (.invokevirtual 34, 3) := by decide +kernel
theorem dX5_untag_25 : decode cX5_untag 25 = .ok (.return_, 1) := by decide +kernel
set_option maxRecDepth 20000 in
theorem ggX5_become_X5_set : GoodIn wsX5_become wsX5_set := goodIn_r _ [6, 1, 7, 8, 9, 10, 11] (by decide +kernel) (by decide +kernel)
set_option maxRecDepth 20000 in
theorem gX5_become_X5_set : GoodIn wsX5_become (wsV RX5 34 RX5 yX5_set wsX5_set) := goodIn_app (goodIn_of _ (by decide +kernel)) ggX5_become_X5_set
theorem dX5_become_0 : decode cX5_become 0 = .ok (.aload_n 0, 1) := by decide +kernel
theorem dX5_become_1 : decode cX5_become 1 = .ok (.iload_n 1, 1) := by decide +kernel
theorem dX5_become_2 : decode cX5_become 2 = .ok (.aload_n 0, 1) := by decide +kernel
theorem dX5_become_3 : decode cX5_become 3 = .ok (.getfield 7, 3) := by decide +kernel
theorem dX5_become_6 : decode cX5_become 6 = .ok (.iload_n 2, 1) := by decide +kernel
theorem dX5_become_7 : decode cX5_become 7 = .ok (.iconst 0, 1) := by decide +kernel
theorem dX5_become_8 : decode cX5_become 8 = .ok (.iadd, 1) := by decide +kernel
theorem dX5_become_9 : decode cX5_become 9 = .ok (.iaload, 1) := by decide +kernel
theorem dX5_become_10 : decode cX5_become 10 = .ok (.aload_n 0, 1) := by decide +kernel
theorem dX5_become_11 : decode cX5_become 11 = .ok (.getfield 7, 3) := by decide +kernel
theorem dX5_become_14 : decode cX5_become 14 = .ok (.iload_n 2, 1) := by decide +kernel
theorem dX5_become_15 : decode cX5_become 15 = .ok (.iconst 1, 1) := by decide +kernel
theorem dX5_become_16 : decode cX5_become 16 = .ok (.iadd, 1) := by decide +kernel
theorem dX5_become_17 : decode cX5_become 17 = .ok (.iaload, 1) := by decide +kernel
theorem dX5_become_18 : decode cX5_become 18 = .ok (.aload_n 0, 1) := by decide +kernel
theorem dX5_become_19 : decode cX5_become 19 = .ok (.getfield 7, 3) := by decide +kernel
theorem dX5_become_22 : decode cX5_become 22 = .ok (.iload_n 2, 1) := by decide +kernel
theorem dX5_become_23 : decode cX5_become 23 = .ok (.iconst 2, 1) := by decide +kernel
theorem dX5_become_24 : decode cX5_become 24 = .ok (.iadd, 1) := by decide +kernel
theorem dX5_become_25 : decode cX5_become 25 = .ok (.iaload, 1) := by decide +kernel
theorem dX5_become_26 : decode cX5_become 26 = .ok (.aload_n 0, 1) := by decide +kernel
theorem dX5_become_27 : decode cX5_become 27 = .ok (.getfield 7, 3) := by decide +kernel
theorem dX5_become_30 : decode cX5_become 30 = .ok (.iload_n 2, 1) := by decide +kernel
theorem dX5_become_31 : decode cX5_become 31 = .ok (.iconst 3, 1) := by decide +kernel
theorem dX5_become_32 : decode cX5_become 32 = .ok (.iadd, 1) := by decide +kernel
theorem dX5_become_33 : decode cX5_become 33 = .ok (.iaload, 1) := by decide +kernel
theorem dX5_become_34 : decode cX5_become 34 = .ok (.aload_n 0, 1) := by decide +kernel
theorem dX5_become_35 : decode cX5_become 35 = .ok (.getfield 7, 3) := by decide +kernel
theorem dX5_become_38 : decode cX5_become 38 = .ok (.iload_n 2, 1) := by decide +kernel
theorem dX5_become_39 : decode cX5_become 39 = .ok (.iconst 4, 1) := by decide +kernel
theorem dX5_become_40 : decode cX5_become 40 = .ok (.iadd, 1) := by decide +kernel
theorem dX5_become_41 : decode cX5_become 41 = .ok (.iaload, 1) := by decide +kernel
theorem dX5_become_42 : decode cX5_become 42 = .ok (.invokevirtual 34, 3) := by decide +kernel
theorem dX5_become_45 : decode cX5_become 45 = .ok (.return_, 1) := by decide +kernel
theorem dX5_isStale_0 : decode cX5_isStale 0 = .ok (.iconst 0, 1) := by decide +kernel
theorem dX5_isStale_1 : decode cX5_isStale 1 = .ok (.istore_n 2, 1) := by decide +kernel
theorem dX5_isStale_2 : decode cX5_isStale 2 = .ok (.aload_n 0, 1) := by decide +kernel
theorem dX5_isStale_3 : decode cX5_isStale 3 = .ok (.getfield 7, 3) := by decide +kernel
theorem dX5_isStale_6 : decode cX5_isStale 6 = .ok (.iload_n 1, 1) := by decide +kernel
theorem dX5_isStale_7 : decode cX5_isStale 7 = .ok (.iconst 2, 1) := by decide +kernel
theorem dX5_isStale_8 : decode cX5_isStale 8 = .ok (.iadd, 1) := by decide +kernel
theorem dX5_isStale_9 : decode cX5_isStale 9 = .ok (.iaload, 1) := by decide +kernel
theorem dX5_isStale_10 : decode cX5_isStale 10 = .ok (.istore_n 3, 1) := by decide +kernel
theorem dX5_isStale_11 : decode cX5_isStale 11 = .ok (.iload_n 3, 1) := by decide +kernel
theorem dX5_isStale_12 : decode cX5_isStale 12 = .ok (.aload_n 0, 1) := by decide +kernel
theorem dX5_isStale_13 : decode cX5_isStale 13 = .ok (.getfield 7, 3) := by decide +kernel
theorem dX5_isStale_16 : decode cX5_isStale 16 = .ok (.iload_n 1, 1) := by decide +kernel
theorem dX5_isStale_17 : decode cX5_isStale 17 = .ok (.iconst 3, 1) := by decide +kernel
theorem dX5_isStale_18 : decode cX5_isStale 18 = .ok (.iadd, 1) := by decide +kernel
theorem dX5_isStale_19 : decode cX5_isStale 19 = .ok (.iaload, 1) := by decide +kernel
theorem dX5_isStale_20 : decode cX5_isStale 20 = .ok (.if_icmp .ge 45, 3) := by decide +kernel
theorem dX5_isStale_23 : decode cX5_isStale 23 = .ok (.aload_n 0, 1) := by decide +kernel
theorem dX5_isStale_24 : decode cX5_isStale 24 = .ok (.getfield 7, 3) := by decide +kernel
theorem dX5_isStale_27 : decode cX5_isStale 27 = .ok (.iload_n 1, 1) := by decide +kernel
theorem dX5_isStale_28 : decode cX5_isStale 28 = .ok (.iconst 0, 1) := by decide +kernel
theorem dX5_isStale_29 : decode cX5_isStale 29 = .ok (.iadd, 1) := by decide +kernel
theorem dX5_isStale_30 : decode cX5_isStale 30 = .ok (.iaload, 1) := by decide +kernel
theorem dX5_isStale_31 : decode cX5_isStale 31 = .ok (.iconst 1, 1) := by decide +kernel
theorem dX5_isStale_32 : decode cX5_isStale 32 = .ok (.if_icmp .ne 33, 3) := by decide +kernel
theorem dX5_isStale_35 : decode cX5_isStale 35 = .ok (.iload_n 2, 1) := by decide +kernel
theorem dX5_isStale_36 : decode cX5_isStale 36 = .ok (.ifCond .ne 17, 3) := by decide +kernel
theorem dX5_isStale_39 : decode cX5_isStale 39 = .ok (.aload_n 0, 1) := by decide +kernel
theorem dX5_isStale_40 : decode cX5_isStale 40 = .ok (.getfield 7, 3) := by decide +kernel
theorem dX5_isStale_43 : decode cX5_isStale 43 = .ok (.sipush 1576, 3) := by decide +kernel
theorem dX5_isStale_46 : decode cX5_isStale 46 = .ok (.iload_n 3, 1) := by decide +kernel
theorem dX5_isStale_47 : decode cX5_isStale 47 = .ok (.iadd, 1) := by decide +kernel
theorem dX5_isStale_48 : decode cX5_isStale 48 = .ok (.iaload, 1) := by decide +kernel
theorem dX5_isStale_49 : decode cX5_isStale 49 = .ok (.iconst 1, 1) := by decide +kernel
theorem dX5_isStale_50 : decode cX5_isStale 50 = .ok (.if_icmp .ne 7, 3) := by decide +kernel
theorem dX5_isStale_53 : decode cX5_isStale 53 = .ok (.iconst 1, 1) := by decide +kernel
theorem dX5_isStale_54 : decode cX5_isStale 54 = .ok (.goto 4, 3) := by decide +kernel
theorem dX5_isStale_57 : decode cX5_isStale 57 = .ok (.iconst 0, 1) := by decide +kernel
theorem dX5_isStale_58 : decode cX5_isStale 58 = .ok (.istore_n 2, 1) := by decide +kernel
theorem dX5_isStale_59 : decode cX5_isStale 59 = .ok (.iinc 3 1, 3) := by decide +kernel
theorem dX5_isStale_62 : decode cX5_isStale 62 = .ok (.goto (-51), 3) := by decide +kernel
theorem dX5_isStale_65 : decode cX5_isStale 65 = .ok (.iload_n 2, 1) := by decide +kernel
theorem dX5_isStale_66 : decode cX5_isStale 66 = .ok (.ifCond .eq 19, 3) := by decide +kernel
theorem dX5_isStale_69 : decode cX5_isStale 69 = .ok (.aload_n 0, 1) := by decide +kernel
theorem dX5_isStale_70 : decode cX5_isStale 70 = .ok (.getfield 7, 3) := by decide +kernel
theorem dX5_isStale_73 : decode cX5_isStale 73 = .ok (.sipush 2120, 3) := by decide +kernel
theorem dX5_isStale_76 : decode cX5_isStale 76 = .ok (.iaload, 1) := by decide +kernel
theorem dX5_isStale_77 : decode cX5_isStale 77 = .ok (.iconst 1, 1) := by decide +kernel
theorem dX5_isStale_78 : decode cX5_isStale 78 = .ok (.if_icmp .ne 7, 3) := by decide +kernel
theorem dX5_isStale_81 : decode cX5_isStale 81 = .ok (.iconst 1, 1) := by decide +kernel
theorem dX5_isStale_82 : decode cX5_isStale 82 = .ok (.goto 4, 3) := by decide +kernel
theorem dX5_isStale_85 : decode cX5_isStale 85 = .ok (.iconst 0, 1) := by decide +kernel
theorem dX5_isStale_86 : decode cX5_isStale 86 = .ok (.ireturn, 1) := by decide +kernel
set_option maxRecDepth 20000 in
theorem ggX5_against_X5_reg : GoodIn wsX5_against wsX5_reg := goodIn_r _ [5] (by decide +kernel) (by decide +kernel)
set_option maxRecDepth 20000 in
theorem gX5_against_X5_reg : GoodIn wsX5_against (va_wsS RX5 38 yX5_reg wsX5_reg) := goodIn_app (goodIn_of _ (by decide +kernel)) ggX5_against_X5_reg
theorem dX5_against_0 : decode cX5_against 0 = .ok (.iload_n 1, 1) := by decide +kernel
theorem dX5_against_1 : decode cX5_against 1 = .ok (.invokestatic 38, 3) := by decide +kernel
theorem dX5_against_4 : decode cX5_against 4 = .ok (.istore 5, 2) := by decide +kernel
theorem dX5_against_6 : decode cX5_against 6 = .ok (.aload_n 0, 1) := by decide +kernel
theorem dX5_against_7 : decode cX5_against 7 = .ok (.getfield 7, 3) := by decide +kernel
theorem dX5_against_10 : decode cX5_against 10 = .ok (.iload 5, 2) := by decide +kernel
theorem dX5_against_12 : decode cX5_against 12 = .ok (.iconst 0, 1) := by decide +kernel
theorem dX5_against_13 : decode cX5_against 13 = .ok (.iadd, 1) := by decide +kernel
theorem dX5_against_14 : decode cX5_against 14 = .ok (.iaload, 1) := by decide +kernel
theorem dX5_against_15 : decode cX5_against 15 = .ok (.ifCond .ne 6, 3) := by decide +kernel
theorem dX5_against_18 : decode cX5_against 18 = .ok (.bipush (-11), 2) := by decide +kernel
theorem dX5_against_20 : decode cX5_against 20 = .ok (.ireturn, 1) := by decide +kernel
theorem dX5_against_21 : decode cX5_against 21 = .ok (.aload_n 0, 1) := by decide +kernel
theorem dX5_against_22 : decode cX5_against 22 = .ok (.getfield 7, 3) := by decide +kernel
theorem dX5_against_25 : decode cX5_against 25 = .ok (.iload 5, 2) := by decide +kernel
theorem dX5_against_27 : decode cX5_against 27 = .ok (.iconst 4, 1) := by decide +kernel
theorem dX5_against_28 : decode cX5_against 28 = .ok (.iadd, 1) := by decide +kernel
theorem dX5_against_29 : decode cX5_against 29 = .ok (.iaload, 1) := by decide +kernel
theorem dX5_against_30 : decode cX5_against 30 = .ok (.iload_n 2, 1) := by decide +kernel
theorem dX5_against_31 : decode cX5_against 31 = .ok (.iand, 1) := by decide +kernel
theorem dX5_against_32 : decode cX5_against 32 = .ok (.ifCond .ne 6, 3) := by decide +kernel
theorem dX5_against_35 : decode cX5_against 35 = .ok (.bipush (-12), 2) := by decide +kernel
theorem dX5_against_37 : decode cX5_against 37 = .ok (.ireturn, 1) := by decide +kernel
theorem dX5_against_38 : decode cX5_against 38 = .ok (.aload_n 0, 1) := by decide +kernel
theorem dX5_against_39 : decode cX5_against 39 = .ok (.getfield 7, 3) := by decide +kernel
theorem dX5_against_42 : decode cX5_against 42 = .ok (.iload 5, 2) := by decide +kernel
theorem dX5_against_44 : decode cX5_against 44 = .ok (.iconst 1, 1) := by decide +kernel
theorem dX5_against_45 : decode cX5_against 45 = .ok (.iadd, 1) := by decide +kernel
theorem dX5_against_46 : decode cX5_against 46 = .ok (.iaload, 1) := by decide +kernel
theorem dX5_against_47 : decode cX5_against 47 = .ok (.i2l, 1) := by decide +kernel
theorem dX5_against_48 : decode cX5_against 48 = .ok (.iload_n 3, 1) := by decide +kernel
theorem dX5_against_49 : decode cX5_against 49 = .ok (.i2l, 1) := by decide +kernel
theorem dX5_against_50 : decode cX5_against 50 = .ok (.ladd, 1) := by decide +kernel
theorem dX5_against_51 : decode cX5_against 51 = .ok (.lstore 6, 2) := by decide +kernel
theorem dX5_against_53 : decode cX5_against 53 = .ok (.lload 6, 2) := by decide +kernel
theorem dX5_against_55 : decode cX5_against 55 = .ok (.aload_n 0, 1) := by decide +kernel
theorem dX5_against_56 : decode cX5_against 56 = .ok (.getfield 7, 3) := by decide +kernel
theorem dX5_against_59 : decode cX5_against 59 = .ok (.iload 5, 2) := by decide +kernel
theorem dX5_against_61 : decode cX5_against 61 = .ok (.iconst 2, 1) := by decide +kernel
theorem dX5_against_62 : decode cX5_against 62 = .ok (.iadd, 1) := by decide +kernel
theorem dX5_against_63 : decode cX5_against 63 = .ok (.iaload, 1) := by decide +kernel
theorem dX5_against_64 : decode cX5_against 64 = .ok (.i2l, 1) := by decide +kernel
theorem dX5_against_65 : decode cX5_against 65 = .ok (.lcmp, 1) := by decide +kernel
theorem dX5_against_66 : decode cX5_against 66 = .ok (.ifCond .lt 23, 3) := by decide +kernel
theorem dX5_against_69 : decode cX5_against 69 = .ok (.lload 6, 2) := by decide +kernel
theorem dX5_against_71 : decode cX5_against 71 = .ok (.iload 4, 2) := by decide +kernel
theorem dX5_against_73 : decode cX5_against 73 = .ok (.i2l, 1) := by decide +kernel
theorem dX5_against_74 : decode cX5_against 74 = .ok (.ladd, 1) := by decide +kernel
theorem dX5_against_75 : decode cX5_against 75 = .ok (.aload_n 0, 1) := by decide +kernel
theorem dX5_against_76 : decode cX5_against 76 = .ok (.getfield 7, 3) := by decide +kernel
theorem dX5_against_79 : decode cX5_against 79 = .ok (.iload 5, 2) := by decide +kernel
theorem dX5_against_81 : decode cX5_against 81 = .ok (.iconst 3, 1) := by decide +kernel
theorem dX5_against_82 : decode cX5_against 82 = .ok (.iadd, 1) := by decide +kernel
theorem dX5_against_83 : decode cX5_against 83 = .ok (.iaload, 1) := by decide +kernel
theorem dX5_against_84 : decode cX5_against 84 = .ok (.i2l, 1) := by decide +kernel
theorem dX5_against_85 : decode cX5_against 85 = .ok (.lcmp, 1) := by decide +kernel
theorem dX5_against_86 : decode cX5_against 86 = .ok (.ifCond .le 8, 3) := by decide +kernel
theorem dX5_against_89 : decode cX5_against 89 = .ok (.bipush (-13), 2) := by decide +kernel
theorem dX5_against_91 : decode cX5_against 91 = .ok (.goto 4, 3) := by decide +kernel
theorem dX5_against_94 : decode cX5_against 94 = .ok (.iconst 0, 1) := by decide +kernel
theorem dX5_against_95 : decode cX5_against 95 = .ok (.ireturn, 1) := by decide +kernel
set_option maxRecDepth 20000 in
theorem ggX5_cellOf_X5_reg : GoodIn wsX5_cellOf wsX5_reg := goodIn_r _ [5] (by decide +kernel) (by decide +kernel)
set_option maxRecDepth 20000 in
theorem gX5_cellOf_X5_reg : GoodIn wsX5_cellOf (va_wsS RX5 38 yX5_reg wsX5_reg) := goodIn_app (goodIn_of _ (by decide +kernel)) ggX5_cellOf_X5_reg
theorem dX5_cellOf_0 : decode cX5_cellOf 0 = .ok (.aload_n 0, 1) := by decide +kernel
theorem dX5_cellOf_1 : decode cX5_cellOf 1 = .ok (.getfield 7, 3) := by decide +kernel
theorem dX5_cellOf_4 : decode cX5_cellOf 4 = .ok (.iload_n 1, 1) := by decide +kernel
theorem dX5_cellOf_5 : decode cX5_cellOf 5 = .ok (.invokestatic 38, 3) := by decide +kernel
theorem dX5_cellOf_8 : decode cX5_cellOf 8 = .ok (.iconst 1, 1) := by decide +kernel
theorem dX5_cellOf_9 : decode cX5_cellOf 9 = .ok (.iadd, 1) := by decide +kernel
theorem dX5_cellOf_10 : decode cX5_cellOf 10 = .ok (.iaload, 1) := by decide +kernel
theorem dX5_cellOf_11 : decode cX5_cellOf 11 = .ok (.iload_n 2, 1) := by decide +kernel
theorem dX5_cellOf_12 : decode cX5_cellOf 12 = .ok (.iadd, 1) := by decide +kernel
theorem dX5_cellOf_13 : decode cX5_cellOf 13 = .ok (.ireturn, 1) := by decide +kernel
set_option maxRecDepth 20000 in
theorem ggX5_give_X5_isRegister : GoodIn wsX5_give wsX5_isRegister := goodIn_r _ [6, 7, 8, 9, 5, 10] (by decide +kernel) (by decide +kernel)
set_option maxRecDepth 20000 in
theorem gX5_give_X5_isRegister : GoodIn wsX5_give (va_wsS RX5 42 yX5_isRegister wsX5_isRegister) := goodIn_app (goodIn_of _ (by decide +kernel)) ggX5_give_X5_isRegister
set_option maxRecDepth 20000 in
theorem ggX5_give_X5_in : GoodIn wsX5_give wsX5_in := goodIn_r _ [10] (by decide +kernel) (by decide +kernel)
set_option maxRecDepth 20000 in
theorem gX5_give_X5_in : GoodIn wsX5_give (va_wsS RX5 25 yX5_in wsX5_in) := goodIn_app (goodIn_of _ (by decide +kernel)) ggX5_give_X5_in
set_option maxRecDepth 20000 in
theorem ggX5_give_X5_begin : GoodIn wsX5_give wsX5_begin := goodIn_r _ [14, 15, 2, 34, 35, 36, 37, 38] (by decide +kernel) (by decide +kernel)
set_option maxRecDepth 20000 in
theorem gX5_give_X5_begin : GoodIn wsX5_give (wsV RX5 48 RX5 yX5_begin wsX5_begin) := goodIn_app (goodIn_of _ (by decide +kernel)) ggX5_give_X5_begin
set_option maxRecDepth 20000 in
theorem ggX5_give_X5_untag : GoodIn wsX5_give wsX5_untag := goodIn_r _ [19, 2, 20, 21, 22, 5, 23, 34, 35, 36, 37, 38] (by decide +kernel) (by decide +kernel)
set_option maxRecDepth 20000 in
theorem gX5_give_X5_untag : GoodIn wsX5_give (wsV RX5 51 RX5 yX5_untag wsX5_untag) := goodIn_app (goodIn_of _ (by decide +kernel)) ggX5_give_X5_untag
set_option maxRecDepth 20000 in
theorem ggX5_give_X5_reg : GoodIn wsX5_give wsX5_reg := goodIn_r _ [26] (by decide +kernel) (by decide +kernel)
set_option maxRecDepth 20000 in
theorem gX5_give_X5_reg : GoodIn wsX5_give (va_wsS RX5 38 yX5_reg wsX5_reg) := goodIn_app (goodIn_of _ (by decide +kernel)) ggX5_give_X5_reg
set_option maxRecDepth 20000 in
theorem ggX5_give_X5_set : GoodIn wsX5_give wsX5_set := goodIn_r _ [23, 2, 34, 35, 36, 37, 38] (by decide +kernel) (by decide +kernel)
set_option maxRecDepth 20000 in
theorem gX5_give_X5_set : GoodIn wsX5_give (wsV RX5 34 RX5 yX5_set wsX5_set) := goodIn_app (goodIn_of _ (by decide +kernel)) ggX5_give_X5_set
set_option maxRecDepth 20000 in
theorem ggX5_give_X5_keeps : GoodIn wsX5_give wsX5_keeps := goodIn_r _ [30, 31, 32, 33, 15, 34, 35, 36, 37, 38] (by decide +kernel) (by decide +kernel)
set_option maxRecDepth 20000 in
theorem gX5_give_X5_keeps : GoodIn wsX5_give (wsV RX5 55 RX5 yX5_keeps wsX5_keeps) := goodIn_app (goodIn_of _ (by decide +kernel)) ggX5_give_X5_keeps
theorem dX5_give_0 : decode cX5_give 0 = .ok (.iload_n 1, 1) := by decide +kernel
theorem dX5_give_1 : decode cX5_give 1 = .ok (.invokestatic 42, 3) := by decide +kernel
theorem dX5_give_4 : decode cX5_give 4 = .ok (.ifCond .eq 15, 3) := by decide +kernel
theorem dX5_give_7 : decode cX5_give 7 = .ok (.iload_n 2, 1) := by decide +kernel
theorem dX5_give_8 : decode cX5_give 8 = .ok (.i2l, 1) := by decide +kernel
theorem dX5_give_9 : decode cX5_give 9 = .ok (.lconst 1, 1) := by decide +kernel
theorem dX5_give_10 : decode cX5_give 10 = .ok (.ldc2_w 46, 3) := by decide +kernel
theorem dX5_give_13 : decode cX5_give 13 = .ok (.invokestatic 25, 3) := by decide +kernel
theorem dX5_give_16 : decode cX5_give 16 = .ok (.ifCond .ne 5, 3) := by decide +kernel
theorem dX5_give_19 : decode cX5_give 19 = .ok (.iconst (-1), 1) := by decide +kernel
theorem dX5_give_20 : decode cX5_give 20 = .ok (.ireturn, 1) := by decide +kernel
theorem dX5_give_21 : decode cX5_give 21 = .ok (.iconst 0, 1) := by decide +kernel
theorem dX5_give_22 : decode cX5_give 22 = .ok (.istore_n 3, 1) := by decide +kernel
theorem dX5_give_23 : decode cX5_give 23 = .ok (.bipush (-4), 2) := by decide +kernel
theorem dX5_give_25 : decode cX5_give 25 = .ok (.istore 4, 2) := by decide +kernel
theorem dX5_give_27 : decode cX5_give 27 = .ok (.iconst 0, 1) := by decide +kernel
theorem dX5_give_28 : decode cX5_give 28 = .ok (.istore 5, 2) := by decide +kernel
theorem dX5_give_30 : decode cX5_give 30 = .ok (.iload 5, 2) := by decide +kernel
theorem dX5_give_32 : decode cX5_give 32 = .ok (.sipush 256, 3) := by decide +kernel
theorem dX5_give_35 : decode cX5_give 35 = .ok (.if_icmp .ge 56, 3) := by decide +kernel
theorem dX5_give_38 : decode cX5_give 38 = .ok (.iload 4, 2) := by decide +kernel
theorem dX5_give_40 : decode cX5_give 40 = .ok (.bipush (-4), 2) := by decide +kernel
theorem dX5_give_42 : decode cX5_give 42 = .ok (.if_icmp .ne 49, 3) := by decide +kernel
theorem dX5_give_45 : decode cX5_give 45 = .ok (.aload_n 0, 1) := by decide +kernel
theorem dX5_give_46 : decode cX5_give 46 = .ok (.getfield 7, 3) := by decide +kernel
theorem dX5_give_49 : decode cX5_give 49 = .ok (.sipush 1320, 3) := by decide +kernel
theorem dX5_give_52 : decode cX5_give 52 = .ok (.iload 5, 2) := by decide +kernel
theorem dX5_give_54 : decode cX5_give 54 = .ok (.iadd, 1) := by decide +kernel
theorem dX5_give_55 : decode cX5_give 55 = .ok (.iaload, 1) := by decide +kernel
theorem dX5_give_56 : decode cX5_give 56 = .ok (.ifCond .ne 9, 3) := by decide +kernel
theorem dX5_give_59 : decode cX5_give 59 = .ok (.iload_n 3, 1) := by decide +kernel
theorem dX5_give_60 : decode cX5_give 60 = .ok (.iconst 1, 1) := by decide +kernel
theorem dX5_give_61 : decode cX5_give 61 = .ok (.iadd, 1) := by decide +kernel
theorem dX5_give_62 : decode cX5_give 62 = .ok (.goto 4, 3) := by decide +kernel
theorem dX5_give_65 : decode cX5_give 65 = .ok (.iconst 0, 1) := by decide +kernel
theorem dX5_give_66 : decode cX5_give 66 = .ok (.istore_n 3, 1) := by decide +kernel
theorem dX5_give_67 : decode cX5_give 67 = .ok (.iload_n 3, 1) := by decide +kernel
theorem dX5_give_68 : decode cX5_give 68 = .ok (.iload_n 2, 1) := by decide +kernel
theorem dX5_give_69 : decode cX5_give 69 = .ok (.if_icmp .ne 12, 3) := by decide +kernel
theorem dX5_give_72 : decode cX5_give 72 = .ok (.iload 5, 2) := by decide +kernel
theorem dX5_give_74 : decode cX5_give 74 = .ok (.iconst 1, 1) := by decide +kernel
theorem dX5_give_75 : decode cX5_give 75 = .ok (.iadd, 1) := by decide +kernel
theorem dX5_give_76 : decode cX5_give 76 = .ok (.iload_n 2, 1) := by decide +kernel
theorem dX5_give_77 : decode cX5_give 77 = .ok (.isub, 1) := by decide +kernel
theorem dX5_give_78 : decode cX5_give 78 = .ok (.goto 5, 3) := by decide +kernel
theorem dX5_give_81 : decode cX5_give 81 = .ok (.bipush (-4), 2) := by decide +kernel
theorem dX5_give_83 : decode cX5_give 83 = .ok (.istore 4, 2) := by decide +kernel
theorem dX5_give_85 : decode cX5_give 85 = .ok (.iinc 5 1, 3) := by decide +kernel
theorem dX5_give_88 : decode cX5_give 88 = .ok (.goto (-58), 3) := by decide +kernel
theorem dX5_give_91 : decode cX5_give 91 = .ok (.iload 4, 2) := by decide +kernel
theorem dX5_give_93 : decode cX5_give 93 = .ok (.bipush (-4), 2) := by decide +kernel
theorem dX5_give_95 : decode cX5_give 95 = .ok (.if_icmp .ne 6, 3) := by decide +kernel
theorem dX5_give_98 : decode cX5_give 98 = .ok (.bipush (-3), 2) := by decide +kernel
theorem dX5_give_100 : decode cX5_give 100 = .ok (.ireturn, 1) := by decide +kernel
theorem dX5_give_101 : decode cX5_give 101 = .ok (.aload_n 0, 1) := by decide +kernel
theorem dX5_give_102 : decode cX5_give 102 = .ok (.invokevirtual 48, 3) := by decide +kernel
theorem dX5_give_105 : decode cX5_give 105 = .ok (.iload 4, 2) := by decide +kernel
theorem dX5_give_107 : decode cX5_give 107 = .ok (.istore 5, 2) := by decide +kernel
theorem dX5_give_109 : decode cX5_give 109 = .ok (.iload 5, 2) := by decide +kernel
theorem dX5_give_111 : decode cX5_give 111 = .ok (.iload 4, 2) := by decide +kernel
theorem dX5_give_113 : decode cX5_give 113 = .ok (.iload_n 2, 1) := by decide +kernel
theorem dX5_give_114 : decode cX5_give 114 = .ok (.iadd, 1) := by decide +kernel
theorem dX5_give_115 : decode cX5_give 115 = .ok (.if_icmp .ge 43, 3) := by decide +kernel
theorem dX5_give_118 : decode cX5_give 118 = .ok (.aload_n 0, 1) := by decide +kernel
theorem dX5_give_119 : decode cX5_give 119 = .ok (.getfield 7, 3) := by decide +kernel
theorem dX5_give_122 : decode cX5_give 122 = .ok (.sipush 1320, 3) := by decide +kernel
theorem dX5_give_125 : decode cX5_give 125 = .ok (.iload 5, 2) := by decide +kernel
theorem dX5_give_127 : decode cX5_give 127 = .ok (.iadd, 1) := by decide +kernel
theorem dX5_give_128 : decode cX5_give 128 = .ok (.iconst 1, 1) := by decide +kernel
theorem dX5_give_129 : decode cX5_give 129 = .ok (.iastore, 1) := by decide +kernel
theorem dX5_give_130 : decode cX5_give 130 = .ok (.aload_n 0, 1) := by decide +kernel
theorem dX5_give_131 : decode cX5_give 131 = .ok (.getfield 7, 3) := by decide +kernel
theorem dX5_give_134 : decode cX5_give 134 = .ok (.sipush 1832, 3) := by decide +kernel
theorem dX5_give_137 : decode cX5_give 137 = .ok (.iload 5, 2) := by decide +kernel
theorem dX5_give_139 : decode cX5_give 139 = .ok (.iadd, 1) := by decide +kernel
theorem dX5_give_140 : decode cX5_give 140 = .ok (.iload 4, 2) := by decide +kernel
theorem dX5_give_142 : decode cX5_give 142 = .ok (.iastore, 1) := by decide +kernel
theorem dX5_give_143 : decode cX5_give 143 = .ok (.aload_n 0, 1) := by decide +kernel
theorem dX5_give_144 : decode cX5_give 144 = .ok (.iconst 5, 1) := by decide +kernel
theorem dX5_give_145 : decode cX5_give 145 = .ok (.iload 5, 2) := by decide +kernel
theorem dX5_give_147 : decode cX5_give 147 = .ok (.imul, 1) := by decide +kernel
theorem dX5_give_148 : decode cX5_give 148 = .ok (.iconst 0, 1) := by decide +kernel
theorem dX5_give_149 : decode cX5_give 149 = .ok (.invokevirtual 51, 3) := by decide +kernel
theorem dX5_give_152 : decode cX5_give 152 = .ok (.iinc 5 1, 3) := by decide +kernel
theorem dX5_give_155 : decode cX5_give 155 = .ok (.goto (-46), 3) := by decide +kernel
theorem dX5_give_158 : decode cX5_give 158 = .ok (.aload_n 0, 1) := by decide +kernel
theorem dX5_give_159 : decode cX5_give 159 = .ok (.iload_n 1, 1) := by decide +kernel
theorem dX5_give_160 : decode cX5_give 160 = .ok (.invokestatic 38, 3) := by decide +kernel
theorem dX5_give_163 : decode cX5_give 163 = .ok (.iconst 1, 1) := by decide +kernel
theorem dX5_give_164 : decode cX5_give 164 = .ok (.iload 4, 2) := by decide +kernel
theorem dX5_give_166 : decode cX5_give 166 = .ok (.iload 4, 2) := by decide +kernel
theorem dX5_give_168 : decode cX5_give 168 = .ok (.iload 4, 2) := by decide +kernel
theorem dX5_give_170 : decode cX5_give 170 = .ok (.iload_n 2, 1) := by decide +kernel
theorem dX5_give_171 : decode cX5_give 171 = .ok (.iadd, 1) := by decide +kernel
theorem dX5_give_172 : decode cX5_give 172 = .ok (.iconst 3, 1) := by decide +kernel
theorem dX5_give_173 : decode cX5_give 173 = .ok (.invokevirtual 34, 3) := by decide +kernel
theorem dX5_give_176 : decode cX5_give 176 = .ok (.aload_n 0, 1) := by decide +kernel
theorem dX5_give_177 : decode cX5_give 177 = .ok (.iload 4, 2) := by decide +kernel
theorem dX5_give_179 : decode cX5_give 179 = .ok (.invokevirtual 55, 3) := by decide +kernel
theorem dX5_give_182 : decode cX5_give 182 = .ok (.ireturn, 1) := by decide +kernel
theorem dX5_rangeSize_0 : decode cX5_rangeSize 0 = .ok (.iconst 0, 1) := by decide +kernel
theorem dX5_rangeSize_1 : decode cX5_rangeSize 1 = .ok (.istore_n 2, 1) := by decide +kernel
theorem dX5_rangeSize_2 : decode cX5_rangeSize 2 = .ok (.iconst 0, 1) := by decide +kernel
theorem dX5_rangeSize_3 : decode cX5_rangeSize 3 = .ok (.istore_n 3, 1) := by decide +kernel
theorem dX5_rangeSize_4 : decode cX5_rangeSize 4 = .ok (.iload_n 3, 1) := by decide +kernel
theorem dX5_rangeSize_5 : decode cX5_rangeSize 5 = .ok (.sipush 256, 3) := by decide +kernel
theorem dX5_rangeSize_8 : decode cX5_rangeSize 8 = .ok (.if_icmp .ge 31, 3) := by decide +kernel
theorem dX5_rangeSize_11 : decode cX5_rangeSize 11 = .ok (.iload_n 2, 1) := by decide +kernel
theorem dX5_rangeSize_12 : decode cX5_rangeSize 12 = .ok (.aload_n 0, 1) := by decide +kernel
theorem dX5_rangeSize_13 : decode cX5_rangeSize 13 = .ok (.getfield 7, 3) := by decide +kernel
theorem dX5_rangeSize_16 : decode cX5_rangeSize 16 = .ok (.sipush 1832, 3) := by decide +kernel
theorem dX5_rangeSize_19 : decode cX5_rangeSize 19 = .ok (.iload_n 3, 1) := by decide +kernel
theorem dX5_rangeSize_20 : decode cX5_rangeSize 20 = .ok (.iadd, 1) := by decide +kernel
theorem dX5_rangeSize_21 : decode cX5_rangeSize 21 = .ok (.iaload, 1) := by decide +kernel
theorem dX5_rangeSize_22 : decode cX5_rangeSize 22 = .ok (.iload_n 1, 1) := by decide +kernel
theorem dX5_rangeSize_23 : decode cX5_rangeSize 23 = .ok (.if_icmp .ne 7, 3) := by decide +kernel
theorem dX5_rangeSize_26 : decode cX5_rangeSize 26 = .ok (.iconst 1, 1) := by decide +kernel
theorem dX5_rangeSize_27 : decode cX5_rangeSize 27 = .ok (.goto 4, 3) := by decide +kernel
theorem dX5_rangeSize_30 : decode cX5_rangeSize 30 = .ok (.iconst 0, 1) := by decide +kernel
theorem dX5_rangeSize_31 : decode cX5_rangeSize 31 = .ok (.iadd, 1) := by decide +kernel
theorem dX5_rangeSize_32 : decode cX5_rangeSize 32 = .ok (.istore_n 2, 1) := by decide +kernel
theorem dX5_rangeSize_33 : decode cX5_rangeSize 33 = .ok (.iinc 3 1, 3) := by decide +kernel
theorem dX5_rangeSize_36 : decode cX5_rangeSize 36 = .ok (.goto (-32), 3) := by decide +kernel
theorem dX5_rangeSize_39 : decode cX5_rangeSize 39 = .ok (.iload_n 2, 1) := by decide +kernel
theorem dX5_rangeSize_40 : decode cX5_rangeSize 40 = .ok (.ireturn, 1) := by decide +kernel
set_option maxRecDepth 20000 in
theorem ggX5_back_X5_isRegister : GoodIn wsX5_back wsX5_isRegister := goodIn_r _ [5, 6, 7, 8, 4, 9] (by decide +kernel) (by decide +kernel)
set_option maxRecDepth 20000 in
theorem gX5_back_X5_isRegister : GoodIn wsX5_back (va_wsS RX5 42 yX5_isRegister wsX5_isRegister) := goodIn_app (goodIn_of _ (by decide +kernel)) ggX5_back_X5_isRegister
set_option maxRecDepth 20000 in
theorem ggX5_back_X5_reg : GoodIn wsX5_back wsX5_reg := goodIn_r _ [12] (by decide +kernel) (by decide +kernel)
set_option maxRecDepth 20000 in
theorem gX5_back_X5_reg : GoodIn wsX5_back (va_wsS RX5 38 yX5_reg wsX5_reg) := goodIn_app (goodIn_of _ (by decide +kernel)) ggX5_back_X5_reg
set_option maxRecDepth 20000 in
theorem ggX5_back_X5_rangeSize : GoodIn wsX5_back wsX5_rangeSize := goodIn_r _ [16, 1, 29, 30, 31, 32, 33] (by decide +kernel) (by decide +kernel)
set_option maxRecDepth 20000 in
theorem gX5_back_X5_rangeSize : GoodIn wsX5_back (wsV RX5 58 RX5 yX5_rangeSize wsX5_rangeSize) := goodIn_app (goodIn_of _ (by decide +kernel)) ggX5_back_X5_rangeSize
set_option maxRecDepth 20000 in
theorem ggX5_back_X5_begin : GoodIn wsX5_back wsX5_begin := goodIn_r _ [20, 21, 1, 29, 30, 31, 32, 33] (by decide +kernel) (by decide +kernel)
set_option maxRecDepth 20000 in
theorem gX5_back_X5_begin : GoodIn wsX5_back (wsV RX5 48 RX5 yX5_begin wsX5_begin) := goodIn_app (goodIn_of _ (by decide +kernel)) ggX5_back_X5_begin
set_option maxRecDepth 20000 in
theorem ggX5_back_X5_keeps : GoodIn wsX5_back wsX5_keeps := goodIn_r _ [25, 26, 27, 28, 21, 29, 30, 31, 32, 33] (by decide +kernel) (by decide +kernel)
set_option maxRecDepth 20000 in
theorem gX5_back_X5_keeps : GoodIn wsX5_back (wsV RX5 55 RX5 yX5_keeps wsX5_keeps) := goodIn_app (goodIn_of _ (by decide +kernel)) ggX5_back_X5_keeps
theorem dX5_back_0 : decode cX5_back 0 = .ok (.iload_n 1, 1) := by decide +kernel
theorem dX5_back_1 : decode cX5_back 1 = .ok (.invokestatic 42, 3) := by decide +kernel
theorem dX5_back_4 : decode cX5_back 4 = .ok (.ifCond .ne 5, 3) := by decide +kernel
theorem dX5_back_7 : decode cX5_back 7 = .ok (.iconst (-1), 1) := by decide +kernel
theorem dX5_back_8 : decode cX5_back 8 = .ok (.ireturn, 1) := by decide +kernel
theorem dX5_back_9 : decode cX5_back 9 = .ok (.iload_n 1, 1) := by decide +kernel
theorem dX5_back_10 : decode cX5_back 10 = .ok (.invokestatic 38, 3) := by decide +kernel
theorem dX5_back_13 : decode cX5_back 13 = .ok (.istore_n 2, 1) := by decide +kernel
theorem dX5_back_14 : decode cX5_back 14 = .ok (.aload_n 0, 1) := by decide +kernel
theorem dX5_back_15 : decode cX5_back 15 = .ok (.getfield 7, 3) := by decide +kernel
theorem dX5_back_18 : decode cX5_back 18 = .ok (.iload_n 2, 1) := by decide +kernel
theorem dX5_back_19 : decode cX5_back 19 = .ok (.iconst 0, 1) := by decide +kernel
theorem dX5_back_20 : decode cX5_back 20 = .ok (.iadd, 1) := by decide +kernel
theorem dX5_back_21 : decode cX5_back 21 = .ok (.iaload, 1) := by decide +kernel
theorem dX5_back_22 : decode cX5_back 22 = .ok (.ifCond .ne 6, 3) := by decide +kernel
theorem dX5_back_25 : decode cX5_back 25 = .ok (.bipush (-11), 2) := by decide +kernel
theorem dX5_back_27 : decode cX5_back 27 = .ok (.ireturn, 1) := by decide +kernel
theorem dX5_back_28 : decode cX5_back 28 = .ok (.aload_n 0, 1) := by decide +kernel
theorem dX5_back_29 : decode cX5_back 29 = .ok (.getfield 7, 3) := by decide +kernel
theorem dX5_back_32 : decode cX5_back 32 = .ok (.iload_n 2, 1) := by decide +kernel
theorem dX5_back_33 : decode cX5_back 33 = .ok (.iconst 2, 1) := by decide +kernel
theorem dX5_back_34 : decode cX5_back 34 = .ok (.iadd, 1) := by decide +kernel
theorem dX5_back_35 : decode cX5_back 35 = .ok (.iaload, 1) := by decide +kernel
theorem dX5_back_36 : decode cX5_back 36 = .ok (.istore_n 3, 1) := by decide +kernel
theorem dX5_back_37 : decode cX5_back 37 = .ok (.aload_n 0, 1) := by decide +kernel
theorem dX5_back_38 : decode cX5_back 38 = .ok (.getfield 7, 3) := by decide +kernel
theorem dX5_back_41 : decode cX5_back 41 = .ok (.iload_n 2, 1) := by decide +kernel
theorem dX5_back_42 : decode cX5_back 42 = .ok (.iconst 3, 1) := by decide +kernel
theorem dX5_back_43 : decode cX5_back 43 = .ok (.iadd, 1) := by decide +kernel
theorem dX5_back_44 : decode cX5_back 44 = .ok (.iaload, 1) := by decide +kernel
theorem dX5_back_45 : decode cX5_back 45 = .ok (.iload_n 3, 1) := by decide +kernel
theorem dX5_back_46 : decode cX5_back 46 = .ok (.isub, 1) := by decide +kernel
theorem dX5_back_47 : decode cX5_back 47 = .ok (.istore 4, 2) := by decide +kernel
theorem dX5_back_49 : decode cX5_back 49 = .ok (.aload_n 0, 1) := by decide +kernel
theorem dX5_back_50 : decode cX5_back 50 = .ok (.getfield 7, 3) := by decide +kernel
theorem dX5_back_53 : decode cX5_back 53 = .ok (.sipush 1832, 3) := by decide +kernel
theorem dX5_back_56 : decode cX5_back 56 = .ok (.iload_n 3, 1) := by decide +kernel
theorem dX5_back_57 : decode cX5_back 57 = .ok (.iadd, 1) := by decide +kernel
theorem dX5_back_58 : decode cX5_back 58 = .ok (.iaload, 1) := by decide +kernel
theorem dX5_back_59 : decode cX5_back 59 = .ok (.iload_n 3, 1) := by decide +kernel
theorem dX5_back_60 : decode cX5_back 60 = .ok (.if_icmp .ne 13, 3) := by decide +kernel
theorem dX5_back_63 : decode cX5_back 63 = .ok (.aload_n 0, 1) := by decide +kernel
theorem dX5_back_64 : decode cX5_back 64 = .ok (.iload_n 3, 1) := by decide +kernel
theorem dX5_back_65 : decode cX5_back 65 = .ok (.invokevirtual 58, 3) := by decide +kernel
theorem dX5_back_68 : decode cX5_back 68 = .ok (.iload 4, 2) := by decide +kernel
theorem dX5_back_70 : decode cX5_back 70 = .ok (.if_icmp .eq 6, 3) := by decide +kernel
theorem dX5_back_73 : decode cX5_back 73 = .ok (.bipush (-2), 2) := by decide +kernel
theorem dX5_back_75 : decode cX5_back 75 = .ok (.ireturn, 1) := by decide +kernel
theorem dX5_back_76 : decode cX5_back 76 = .ok (.aload_n 0, 1) := by decide +kernel
theorem dX5_back_77 : decode cX5_back 77 = .ok (.invokevirtual 48, 3) := by decide +kernel
theorem dX5_back_80 : decode cX5_back 80 = .ok (.iload_n 3, 1) := by decide +kernel
theorem dX5_back_81 : decode cX5_back 81 = .ok (.istore 5, 2) := by decide +kernel
theorem dX5_back_83 : decode cX5_back 83 = .ok (.iload 5, 2) := by decide +kernel
theorem dX5_back_85 : decode cX5_back 85 = .ok (.iload_n 3, 1) := by decide +kernel
theorem dX5_back_86 : decode cX5_back 86 = .ok (.iload 4, 2) := by decide +kernel
theorem dX5_back_88 : decode cX5_back 88 = .ok (.iadd, 1) := by decide +kernel
theorem dX5_back_89 : decode cX5_back 89 = .ok (.if_icmp .ge 34, 3) := by decide +kernel
theorem dX5_back_92 : decode cX5_back 92 = .ok (.aload_n 0, 1) := by decide +kernel
theorem dX5_back_93 : decode cX5_back 93 = .ok (.getfield 7, 3) := by decide +kernel
theorem dX5_back_96 : decode cX5_back 96 = .ok (.sipush 1320, 3) := by decide +kernel
theorem dX5_back_99 : decode cX5_back 99 = .ok (.iload 5, 2) := by decide +kernel
theorem dX5_back_101 : decode cX5_back 101 = .ok (.iadd, 1) := by decide +kernel
theorem dX5_back_102 : decode cX5_back 102 = .ok (.iconst 2, 1) := by decide +kernel
theorem dX5_back_103 : decode cX5_back 103 = .ok (.iastore, 1) := by decide +kernel
theorem dX5_back_104 : decode cX5_back 104 = .ok (.aload_n 0, 1) := by decide +kernel
theorem dX5_back_105 : decode cX5_back 105 = .ok (.getfield 7, 3) := by decide +kernel
theorem dX5_back_108 : decode cX5_back 108 = .ok (.sipush 1832, 3) := by decide +kernel
theorem dX5_back_111 : decode cX5_back 111 = .ok (.iload 5, 2) := by decide +kernel
theorem dX5_back_113 : decode cX5_back 113 = .ok (.iadd, 1) := by decide +kernel
theorem dX5_back_114 : decode cX5_back 114 = .ok (.bipush (-4), 2) := by decide +kernel
theorem dX5_back_116 : decode cX5_back 116 = .ok (.iastore, 1) := by decide +kernel
theorem dX5_back_117 : decode cX5_back 117 = .ok (.iinc 5 1, 3) := by decide +kernel
theorem dX5_back_120 : decode cX5_back 120 = .ok (.goto (-37), 3) := by decide +kernel
theorem dX5_back_123 : decode cX5_back 123 = .ok (.aload_n 0, 1) := by decide +kernel
theorem dX5_back_124 : decode cX5_back 124 = .ok (.iload 4, 2) := by decide +kernel
theorem dX5_back_126 : decode cX5_back 126 = .ok (.invokevirtual 55, 3) := by decide +kernel
theorem dX5_back_129 : decode cX5_back 129 = .ok (.ireturn, 1) := by decide +kernel
set_option maxRecDepth 20000 in
theorem ggX5_number_X5_isRegister : GoodIn wsX5_number wsX5_isRegister := goodIn_r _ [4, 5, 6, 7, 3, 8] (by decide +kernel) (by decide +kernel)
set_option maxRecDepth 20000 in
theorem gX5_number_X5_isRegister : GoodIn wsX5_number (va_wsS RX5 42 yX5_isRegister wsX5_isRegister) := goodIn_app (goodIn_of _ (by decide +kernel)) ggX5_number_X5_isRegister
set_option maxRecDepth 20000 in
theorem ggX5_number_X5_begin : GoodIn wsX5_number wsX5_begin := goodIn_r _ [12, 13, 14, 29, 30, 31, 32, 33] (by decide +kernel) (by decide +kernel)
set_option maxRecDepth 20000 in
theorem gX5_number_X5_begin : GoodIn wsX5_number (wsV RX5 48 RX5 yX5_begin wsX5_begin) := goodIn_app (goodIn_of _ (by decide +kernel)) ggX5_number_X5_begin
set_option maxRecDepth 20000 in
theorem ggX5_number_X5_reg : GoodIn wsX5_number wsX5_reg := goodIn_r _ [17] (by decide +kernel) (by decide +kernel)
set_option maxRecDepth 20000 in
theorem gX5_number_X5_reg : GoodIn wsX5_number (va_wsS RX5 38 yX5_reg wsX5_reg) := goodIn_app (goodIn_of _ (by decide +kernel)) ggX5_number_X5_reg
set_option maxRecDepth 20000 in
theorem ggX5_number_X5_set : GoodIn wsX5_number wsX5_set := goodIn_r _ [21, 14, 29, 30, 31, 32, 33] (by decide +kernel) (by decide +kernel)
set_option maxRecDepth 20000 in
theorem gX5_number_X5_set : GoodIn wsX5_number (wsV RX5 34 RX5 yX5_set wsX5_set) := goodIn_app (goodIn_of _ (by decide +kernel)) ggX5_number_X5_set
set_option maxRecDepth 20000 in
theorem ggX5_number_X5_keeps : GoodIn wsX5_number wsX5_keeps := goodIn_r _ [25, 26, 27, 28, 13, 29, 30, 31, 32, 33] (by decide +kernel) (by decide +kernel)
set_option maxRecDepth 20000 in
theorem gX5_number_X5_keeps : GoodIn wsX5_number (wsV RX5 55 RX5 yX5_keeps wsX5_keeps) := goodIn_app (goodIn_of _ (by decide +kernel)) ggX5_number_X5_keeps
theorem dX5_number_0 : decode cX5_number 0 = .ok (.iload_n 1, 1) := by decide +kernel
theorem dX5_number_1 : decode cX5_number 1 = .ok (.invokestatic 42, 3) := by decide +kernel
theorem dX5_number_4 : decode cX5_number 4 = .ok (.ifCond .ne 5, 3) := by decide +kernel
theorem dX5_number_7 : decode cX5_number 7 = .ok (.iconst (-1), 1) := by decide +kernel
theorem dX5_number_8 : decode cX5_number 8 = .ok (.ireturn, 1) := by decide +kernel
theorem dX5_number_9 : decode cX5_number 9 = .ok (.aload_n 0, 1) := by decide +kernel
theorem dX5_number_10 : decode cX5_number 10 = .ok (.invokevirtual 48, 3) := by decide +kernel
theorem dX5_number_13 : decode cX5_number 13 = .ok (.aload_n 0, 1) := by decide +kernel
theorem dX5_number_14 : decode cX5_number 14 = .ok (.iload_n 1, 1) := by decide +kernel
theorem dX5_number_15 : decode cX5_number 15 = .ok (.invokestatic 38, 3) := by decide +kernel
theorem dX5_number_18 : decode cX5_number 18 = .ok (.iconst 0, 1) := by decide +kernel
theorem dX5_number_19 : decode cX5_number 19 = .ok (.iload_n 2, 1) := by decide +kernel
theorem dX5_number_20 : decode cX5_number 20 = .ok (.iconst 0, 1) := by decide +kernel
theorem dX5_number_21 : decode cX5_number 21 = .ok (.iconst 0, 1) := by decide +kernel
theorem dX5_number_22 : decode cX5_number 22 = .ok (.iconst 0, 1) := by decide +kernel
theorem dX5_number_23 : decode cX5_number 23 = .ok (.invokevirtual 34, 3) := by decide +kernel
theorem dX5_number_26 : decode cX5_number 26 = .ok (.aload_n 0, 1) := by decide +kernel
theorem dX5_number_27 : decode cX5_number 27 = .ok (.iconst 0, 1) := by decide +kernel
theorem dX5_number_28 : decode cX5_number 28 = .ok (.invokevirtual 55, 3) := by decide +kernel
theorem dX5_number_31 : decode cX5_number 31 = .ok (.ireturn, 1) := by decide +kernel
set_option maxRecDepth 20000 in
theorem ggX5_copy_X5_isRegister : GoodIn wsX5_copy wsX5_isRegister := goodIn_r _ [4, 5, 6, 7, 3, 8] (by decide +kernel) (by decide +kernel)
set_option maxRecDepth 20000 in
theorem gX5_copy_X5_isRegister : GoodIn wsX5_copy (va_wsS RX5 42 yX5_isRegister wsX5_isRegister) := goodIn_app (goodIn_of _ (by decide +kernel)) ggX5_copy_X5_isRegister
set_option maxRecDepth 20000 in
theorem ggX5_copy_X5_begin : GoodIn wsX5_copy wsX5_begin := goodIn_r _ [12, 13, 14, 33, 34, 35, 36, 37] (by decide +kernel) (by decide +kernel)
set_option maxRecDepth 20000 in
theorem gX5_copy_X5_begin : GoodIn wsX5_copy (wsV RX5 48 RX5 yX5_begin wsX5_begin) := goodIn_app (goodIn_of _ (by decide +kernel)) ggX5_copy_X5_begin
set_option maxRecDepth 20000 in
theorem ggX5_copy_X5_reg : GoodIn wsX5_copy wsX5_reg := goodIn_r _ [17] (by decide +kernel) (by decide +kernel)
set_option maxRecDepth 20000 in
theorem gX5_copy_X5_reg : GoodIn wsX5_copy (va_wsS RX5 38 yX5_reg wsX5_reg) := goodIn_app (goodIn_of _ (by decide +kernel)) ggX5_copy_X5_reg
set_option maxRecDepth 20000 in
theorem ggX5_copy_X5_become : GoodIn wsX5_copy wsX5_become := goodIn_r _ [21, 14, 22, 23, 24, 3, 25, 33, 34, 35, 36, 37] (by decide +kernel) (by decide +kernel)
set_option maxRecDepth 20000 in
theorem gX5_copy_X5_become : GoodIn wsX5_copy (wsV RX5 61 RX5 yX5_become wsX5_become) := goodIn_app (goodIn_of _ (by decide +kernel)) ggX5_copy_X5_become
set_option maxRecDepth 20000 in
theorem ggX5_copy_X5_keeps : GoodIn wsX5_copy wsX5_keeps := goodIn_r _ [29, 30, 31, 32, 13, 33, 34, 35, 36, 37] (by decide +kernel) (by decide +kernel)
set_option maxRecDepth 20000 in
theorem gX5_copy_X5_keeps : GoodIn wsX5_copy (wsV RX5 55 RX5 yX5_keeps wsX5_keeps) := goodIn_app (goodIn_of _ (by decide +kernel)) ggX5_copy_X5_keeps
theorem dX5_copy_0 : decode cX5_copy 0 = .ok (.iload_n 1, 1) := by decide +kernel
theorem dX5_copy_1 : decode cX5_copy 1 = .ok (.invokestatic 42, 3) := by decide +kernel
theorem dX5_copy_4 : decode cX5_copy 4 = .ok (.ifCond .eq 10, 3) := by decide +kernel
theorem dX5_copy_7 : decode cX5_copy 7 = .ok (.iload_n 2, 1) := by decide +kernel
theorem dX5_copy_8 : decode cX5_copy 8 = .ok (.invokestatic 42, 3) := by decide +kernel
theorem dX5_copy_11 : decode cX5_copy 11 = .ok (.ifCond .ne 5, 3) := by decide +kernel
theorem dX5_copy_14 : decode cX5_copy 14 = .ok (.iconst (-1), 1) := by decide +kernel
theorem dX5_copy_15 : decode cX5_copy 15 = .ok (.ireturn, 1) := by decide +kernel
theorem dX5_copy_16 : decode cX5_copy 16 = .ok (.aload_n 0, 1) := by decide +kernel
theorem dX5_copy_17 : decode cX5_copy 17 = .ok (.invokevirtual 48, 3) := by decide +kernel
theorem dX5_copy_20 : decode cX5_copy 20 = .ok (.aload_n 0, 1) := by decide +kernel
theorem dX5_copy_21 : decode cX5_copy 21 = .ok (.iload_n 1, 1) := by decide +kernel
theorem dX5_copy_22 : decode cX5_copy 22 = .ok (.invokestatic 38, 3) := by decide +kernel
theorem dX5_copy_25 : decode cX5_copy 25 = .ok (.iload_n 2, 1) := by decide +kernel
theorem dX5_copy_26 : decode cX5_copy 26 = .ok (.invokestatic 38, 3) := by decide +kernel
theorem dX5_copy_29 : decode cX5_copy 29 = .ok (.invokevirtual 61, 3) := by decide +kernel
theorem dX5_copy_32 : decode cX5_copy 32 = .ok (.aload_n 0, 1) := by decide +kernel
theorem dX5_copy_33 : decode cX5_copy 33 = .ok (.iconst 0, 1) := by decide +kernel
theorem dX5_copy_34 : decode cX5_copy 34 = .ok (.invokevirtual 55, 3) := by decide +kernel
theorem dX5_copy_37 : decode cX5_copy 37 = .ok (.ireturn, 1) := by decide +kernel
set_option maxRecDepth 20000 in
theorem ggX5_move_X5_isRegister : GoodIn wsX5_move wsX5_isRegister := goodIn_r _ [7, 8, 9, 10, 6, 11] (by decide +kernel) (by decide +kernel)
set_option maxRecDepth 20000 in
theorem gX5_move_X5_isRegister : GoodIn wsX5_move (va_wsS RX5 42 yX5_isRegister wsX5_isRegister) := goodIn_app (goodIn_of _ (by decide +kernel)) ggX5_move_X5_isRegister
set_option maxRecDepth 20000 in
theorem ggX5_move_X5_reg : GoodIn wsX5_move wsX5_reg := goodIn_r _ [14] (by decide +kernel) (by decide +kernel)
set_option maxRecDepth 20000 in
theorem gX5_move_X5_reg : GoodIn wsX5_move (va_wsS RX5 38 yX5_reg wsX5_reg) := goodIn_app (goodIn_of _ (by decide +kernel)) ggX5_move_X5_reg
set_option maxRecDepth 20000 in
theorem ggX5_move_X5_begin : GoodIn wsX5_move wsX5_begin := goodIn_r _ [18, 19, 2, 27, 28, 29, 30, 31] (by decide +kernel) (by decide +kernel)
set_option maxRecDepth 20000 in
theorem gX5_move_X5_begin : GoodIn wsX5_move (wsV RX5 48 RX5 yX5_begin wsX5_begin) := goodIn_app (goodIn_of _ (by decide +kernel)) ggX5_move_X5_begin
set_option maxRecDepth 20000 in
theorem ggX5_move_X5_keeps : GoodIn wsX5_move wsX5_keeps := goodIn_r _ [23, 24, 25, 26, 19, 27, 28, 29, 30, 31] (by decide +kernel) (by decide +kernel)
set_option maxRecDepth 20000 in
theorem gX5_move_X5_keeps : GoodIn wsX5_move (wsV RX5 55 RX5 yX5_keeps wsX5_keeps) := goodIn_app (goodIn_of _ (by decide +kernel)) ggX5_move_X5_keeps
theorem dX5_move_0 : decode cX5_move 0 = .ok (.iload_n 1, 1) := by decide +kernel
theorem dX5_move_1 : decode cX5_move 1 = .ok (.invokestatic 42, 3) := by decide +kernel
theorem dX5_move_4 : decode cX5_move 4 = .ok (.ifCond .ne 6, 3) := by decide +kernel
theorem dX5_move_7 : decode cX5_move 7 = .ok (.ldc 65, 2) := by decide +kernel
theorem dX5_move_9 : decode cX5_move 9 = .ok (.ireturn, 1) := by decide +kernel
theorem dX5_move_10 : decode cX5_move 10 = .ok (.aload_n 0, 1) := by decide +kernel
theorem dX5_move_11 : decode cX5_move 11 = .ok (.getfield 7, 3) := by decide +kernel
theorem dX5_move_14 : decode cX5_move 14 = .ok (.iload_n 1, 1) := by decide +kernel
theorem dX5_move_15 : decode cX5_move 15 = .ok (.invokestatic 38, 3) := by decide +kernel
theorem dX5_move_18 : decode cX5_move 18 = .ok (.iconst 0, 1) := by decide +kernel
theorem dX5_move_19 : decode cX5_move 19 = .ok (.iadd, 1) := by decide +kernel
theorem dX5_move_20 : decode cX5_move 20 = .ok (.iaload, 1) := by decide +kernel
theorem dX5_move_21 : decode cX5_move 21 = .ok (.ifCond .ne 6, 3) := by decide +kernel
theorem dX5_move_24 : decode cX5_move 24 = .ok (.ldc 66, 2) := by decide +kernel
theorem dX5_move_26 : decode cX5_move 26 = .ok (.ireturn, 1) := by decide +kernel
theorem dX5_move_27 : decode cX5_move 27 = .ok (.aload_n 0, 1) := by decide +kernel
theorem dX5_move_28 : decode cX5_move 28 = .ok (.invokevirtual 48, 3) := by decide +kernel
theorem dX5_move_31 : decode cX5_move 31 = .ok (.aload_n 0, 1) := by decide +kernel
theorem dX5_move_32 : decode cX5_move 32 = .ok (.getfield 7, 3) := by decide +kernel
theorem dX5_move_35 : decode cX5_move 35 = .ok (.iload_n 1, 1) := by decide +kernel
theorem dX5_move_36 : decode cX5_move 36 = .ok (.invokestatic 38, 3) := by decide +kernel
theorem dX5_move_39 : decode cX5_move 39 = .ok (.iconst 1, 1) := by decide +kernel
theorem dX5_move_40 : decode cX5_move 40 = .ok (.iadd, 1) := by decide +kernel
theorem dX5_move_41 : decode cX5_move 41 = .ok (.dup2, 1) := by decide +kernel
theorem dX5_move_42 : decode cX5_move 42 = .ok (.iaload, 1) := by decide +kernel
theorem dX5_move_43 : decode cX5_move 43 = .ok (.iload_n 2, 1) := by decide +kernel
theorem dX5_move_44 : decode cX5_move 44 = .ok (.iadd, 1) := by decide +kernel
theorem dX5_move_45 : decode cX5_move 45 = .ok (.iastore, 1) := by decide +kernel
theorem dX5_move_46 : decode cX5_move 46 = .ok (.aload_n 0, 1) := by decide +kernel
theorem dX5_move_47 : decode cX5_move 47 = .ok (.aload_n 0, 1) := by decide +kernel
theorem dX5_move_48 : decode cX5_move 48 = .ok (.getfield 7, 3) := by decide +kernel
theorem dX5_move_51 : decode cX5_move 51 = .ok (.iload_n 1, 1) := by decide +kernel
theorem dX5_move_52 : decode cX5_move 52 = .ok (.invokestatic 38, 3) := by decide +kernel
theorem dX5_move_55 : decode cX5_move 55 = .ok (.iconst 1, 1) := by decide +kernel
theorem dX5_move_56 : decode cX5_move 56 = .ok (.iadd, 1) := by decide +kernel
theorem dX5_move_57 : decode cX5_move 57 = .ok (.iaload, 1) := by decide +kernel
theorem dX5_move_58 : decode cX5_move 58 = .ok (.invokevirtual 55, 3) := by decide +kernel
theorem dX5_move_61 : decode cX5_move 61 = .ok (.ireturn, 1) := by decide +kernel
set_option maxRecDepth 20000 in
theorem ggX5_narrow_X5_isRegister : GoodIn wsX5_narrow wsX5_isRegister := goodIn_r _ [6, 7, 8, 9, 5, 10] (by decide +kernel) (by decide +kernel)
set_option maxRecDepth 20000 in
theorem gX5_narrow_X5_isRegister : GoodIn wsX5_narrow (va_wsS RX5 42 yX5_isRegister wsX5_isRegister) := goodIn_app (goodIn_of _ (by decide +kernel)) ggX5_narrow_X5_isRegister
set_option maxRecDepth 20000 in
theorem ggX5_narrow_X5_in : GoodIn wsX5_narrow wsX5_in := goodIn_r _ [10] (by decide +kernel) (by decide +kernel)
set_option maxRecDepth 20000 in
theorem gX5_narrow_X5_in : GoodIn wsX5_narrow (va_wsS RX5 25 yX5_in wsX5_in) := goodIn_app (goodIn_of _ (by decide +kernel)) ggX5_narrow_X5_in
set_option maxRecDepth 20000 in
theorem ggX5_narrow_X5_reg : GoodIn wsX5_narrow wsX5_reg := goodIn_r _ [13] (by decide +kernel) (by decide +kernel)
set_option maxRecDepth 20000 in
theorem gX5_narrow_X5_reg : GoodIn wsX5_narrow (va_wsS RX5 38 yX5_reg wsX5_reg) := goodIn_app (goodIn_of _ (by decide +kernel)) ggX5_narrow_X5_reg
set_option maxRecDepth 20000 in
theorem ggX5_narrow_X5_begin : GoodIn wsX5_narrow wsX5_begin := goodIn_r _ [17, 18, 2, 30, 31, 32, 33, 34] (by decide +kernel) (by decide +kernel)
set_option maxRecDepth 20000 in
theorem gX5_narrow_X5_begin : GoodIn wsX5_narrow (wsV RX5 48 RX5 yX5_begin wsX5_begin) := goodIn_app (goodIn_of _ (by decide +kernel)) ggX5_narrow_X5_begin
set_option maxRecDepth 20000 in
theorem ggX5_narrow_X5_set : GoodIn wsX5_narrow wsX5_set := goodIn_r _ [22, 2, 30, 31, 32, 33, 34] (by decide +kernel) (by decide +kernel)
set_option maxRecDepth 20000 in
theorem gX5_narrow_X5_set : GoodIn wsX5_narrow (wsV RX5 34 RX5 yX5_set wsX5_set) := goodIn_app (goodIn_of _ (by decide +kernel)) ggX5_narrow_X5_set
set_option maxRecDepth 20000 in
theorem ggX5_narrow_X5_keeps : GoodIn wsX5_narrow wsX5_keeps := goodIn_r _ [26, 27, 28, 29, 18, 30, 31, 32, 33, 34] (by decide +kernel) (by decide +kernel)
set_option maxRecDepth 20000 in
theorem gX5_narrow_X5_keeps : GoodIn wsX5_narrow (wsV RX5 55 RX5 yX5_keeps wsX5_keeps) := goodIn_app (goodIn_of _ (by decide +kernel)) ggX5_narrow_X5_keeps
theorem dX5_narrow_0 : decode cX5_narrow 0 = .ok (.iload_n 1, 1) := by decide +kernel
theorem dX5_narrow_1 : decode cX5_narrow 1 = .ok (.invokestatic 42, 3) := by decide +kernel
theorem dX5_narrow_4 : decode cX5_narrow 4 = .ok (.ifCond .eq 28, 3) := by decide +kernel
theorem dX5_narrow_7 : decode cX5_narrow 7 = .ok (.iload_n 2, 1) := by decide +kernel
theorem dX5_narrow_8 : decode cX5_narrow 8 = .ok (.invokestatic 42, 3) := by decide +kernel
theorem dX5_narrow_11 : decode cX5_narrow 11 = .ok (.ifCond .eq 21, 3) := by decide +kernel
theorem dX5_narrow_14 : decode cX5_narrow 14 = .ok (.iload_n 3, 1) := by decide +kernel
theorem dX5_narrow_15 : decode cX5_narrow 15 = .ok (.iconst 1, 1) := by decide +kernel
theorem dX5_narrow_16 : decode cX5_narrow 16 = .ok (.if_icmp .lt 16, 3) := by decide +kernel
theorem dX5_narrow_19 : decode cX5_narrow 19 = .ok (.iload 4, 2) := by decide +kernel
theorem dX5_narrow_21 : decode cX5_narrow 21 = .ok (.i2l, 1) := by decide +kernel
theorem dX5_narrow_22 : decode cX5_narrow 22 = .ok (.lconst 0, 1) := by decide +kernel
theorem dX5_narrow_23 : decode cX5_narrow 23 = .ok (.ldc2_w 67, 3) := by decide +kernel
theorem dX5_narrow_26 : decode cX5_narrow 26 = .ok (.invokestatic 25, 3) := by decide +kernel
theorem dX5_narrow_29 : decode cX5_narrow 29 = .ok (.ifCond .ne 5, 3) := by decide +kernel
theorem dX5_narrow_32 : decode cX5_narrow 32 = .ok (.iconst (-1), 1) := by decide +kernel
theorem dX5_narrow_33 : decode cX5_narrow 33 = .ok (.ireturn, 1) := by decide +kernel
theorem dX5_narrow_34 : decode cX5_narrow 34 = .ok (.iload_n 2, 1) := by decide +kernel
theorem dX5_narrow_35 : decode cX5_narrow 35 = .ok (.invokestatic 38, 3) := by decide +kernel
theorem dX5_narrow_38 : decode cX5_narrow 38 = .ok (.istore 5, 2) := by decide +kernel
theorem dX5_narrow_40 : decode cX5_narrow 40 = .ok (.aload_n 0, 1) := by decide +kernel
theorem dX5_narrow_41 : decode cX5_narrow 41 = .ok (.getfield 7, 3) := by decide +kernel
theorem dX5_narrow_44 : decode cX5_narrow 44 = .ok (.iload 5, 2) := by decide +kernel
theorem dX5_narrow_46 : decode cX5_narrow 46 = .ok (.iconst 0, 1) := by decide +kernel
theorem dX5_narrow_47 : decode cX5_narrow 47 = .ok (.iadd, 1) := by decide +kernel
theorem dX5_narrow_48 : decode cX5_narrow 48 = .ok (.iaload, 1) := by decide +kernel
theorem dX5_narrow_49 : decode cX5_narrow 49 = .ok (.ifCond .ne 6, 3) := by decide +kernel
theorem dX5_narrow_52 : decode cX5_narrow 52 = .ok (.bipush (-11), 2) := by decide +kernel
theorem dX5_narrow_54 : decode cX5_narrow 54 = .ok (.ireturn, 1) := by decide +kernel
theorem dX5_narrow_55 : decode cX5_narrow 55 = .ok (.aload_n 0, 1) := by decide +kernel
theorem dX5_narrow_56 : decode cX5_narrow 56 = .ok (.getfield 7, 3) := by decide +kernel
theorem dX5_narrow_59 : decode cX5_narrow 59 = .ok (.iload 5, 2) := by decide +kernel
theorem dX5_narrow_61 : decode cX5_narrow 61 = .ok (.iconst 1, 1) := by decide +kernel
theorem dX5_narrow_62 : decode cX5_narrow 62 = .ok (.iadd, 1) := by decide +kernel
theorem dX5_narrow_63 : decode cX5_narrow 63 = .ok (.iaload, 1) := by decide +kernel
theorem dX5_narrow_64 : decode cX5_narrow 64 = .ok (.istore 6, 2) := by decide +kernel
theorem dX5_narrow_66 : decode cX5_narrow 66 = .ok (.iload 6, 2) := by decide +kernel
theorem dX5_narrow_68 : decode cX5_narrow 68 = .ok (.aload_n 0, 1) := by decide +kernel
theorem dX5_narrow_69 : decode cX5_narrow 69 = .ok (.getfield 7, 3) := by decide +kernel
theorem dX5_narrow_72 : decode cX5_narrow 72 = .ok (.iload 5, 2) := by decide +kernel
theorem dX5_narrow_74 : decode cX5_narrow 74 = .ok (.iconst 2, 1) := by decide +kernel
theorem dX5_narrow_75 : decode cX5_narrow 75 = .ok (.iadd, 1) := by decide +kernel
theorem dX5_narrow_76 : decode cX5_narrow 76 = .ok (.iaload, 1) := by decide +kernel
theorem dX5_narrow_77 : decode cX5_narrow 77 = .ok (.if_icmp .lt 23, 3) := by decide +kernel
theorem dX5_narrow_80 : decode cX5_narrow 80 = .ok (.iload 6, 2) := by decide +kernel
theorem dX5_narrow_82 : decode cX5_narrow 82 = .ok (.i2l, 1) := by decide +kernel
theorem dX5_narrow_83 : decode cX5_narrow 83 = .ok (.iload_n 3, 1) := by decide +kernel
theorem dX5_narrow_84 : decode cX5_narrow 84 = .ok (.i2l, 1) := by decide +kernel
theorem dX5_narrow_85 : decode cX5_narrow 85 = .ok (.ladd, 1) := by decide +kernel
theorem dX5_narrow_86 : decode cX5_narrow 86 = .ok (.aload_n 0, 1) := by decide +kernel
theorem dX5_narrow_87 : decode cX5_narrow 87 = .ok (.getfield 7, 3) := by decide +kernel
theorem dX5_narrow_90 : decode cX5_narrow 90 = .ok (.iload 5, 2) := by decide +kernel
theorem dX5_narrow_92 : decode cX5_narrow 92 = .ok (.iconst 3, 1) := by decide +kernel
theorem dX5_narrow_93 : decode cX5_narrow 93 = .ok (.iadd, 1) := by decide +kernel
theorem dX5_narrow_94 : decode cX5_narrow 94 = .ok (.iaload, 1) := by decide +kernel
theorem dX5_narrow_95 : decode cX5_narrow 95 = .ok (.i2l, 1) := by decide +kernel
theorem dX5_narrow_96 : decode cX5_narrow 96 = .ok (.lcmp, 1) := by decide +kernel
theorem dX5_narrow_97 : decode cX5_narrow 97 = .ok (.ifCond .le 6, 3) := by decide +kernel
theorem dX5_narrow_100 : decode cX5_narrow 100 = .ok (.bipush (-13), 2) := by decide +kernel
theorem dX5_narrow_102 : decode cX5_narrow 102 = .ok (.ireturn, 1) := by decide +kernel
theorem dX5_narrow_103 : decode cX5_narrow 103 = .ok (.aload_n 0, 1) := by decide +kernel
theorem dX5_narrow_104 : decode cX5_narrow 104 = .ok (.invokevirtual 48, 3) := by decide +kernel
theorem dX5_narrow_107 : decode cX5_narrow 107 = .ok (.aload_n 0, 1) := by decide +kernel
theorem dX5_narrow_108 : decode cX5_narrow 108 = .ok (.iload_n 1, 1) := by decide +kernel
theorem dX5_narrow_109 : decode cX5_narrow 109 = .ok (.invokestatic 38, 3) := by decide +kernel
theorem dX5_narrow_112 : decode cX5_narrow 112 = .ok (.iconst 1, 1) := by decide +kernel
theorem dX5_narrow_113 : decode cX5_narrow 113 = .ok (.iload 6, 2) := by decide +kernel
theorem dX5_narrow_115 : decode cX5_narrow 115 = .ok (.iload 6, 2) := by decide +kernel
theorem dX5_narrow_117 : decode cX5_narrow 117 = .ok (.iload 6, 2) := by decide +kernel
theorem dX5_narrow_119 : decode cX5_narrow 119 = .ok (.iload_n 3, 1) := by decide +kernel
theorem dX5_narrow_120 : decode cX5_narrow 120 = .ok (.iadd, 1) := by decide +kernel
theorem dX5_narrow_121 : decode cX5_narrow 121 = .ok (.aload_n 0, 1) := by decide +kernel
theorem dX5_narrow_122 : decode cX5_narrow 122 = .ok (.getfield 7, 3) := by decide +kernel
theorem dX5_narrow_125 : decode cX5_narrow 125 = .ok (.iload 5, 2) := by decide +kernel
theorem dX5_narrow_127 : decode cX5_narrow 127 = .ok (.iconst 4, 1) := by decide +kernel
theorem dX5_narrow_128 : decode cX5_narrow 128 = .ok (.iadd, 1) := by decide +kernel
theorem dX5_narrow_129 : decode cX5_narrow 129 = .ok (.iaload, 1) := by decide +kernel
theorem dX5_narrow_130 : decode cX5_narrow 130 = .ok (.iload 4, 2) := by decide +kernel
theorem dX5_narrow_132 : decode cX5_narrow 132 = .ok (.iand, 1) := by decide +kernel
theorem dX5_narrow_133 : decode cX5_narrow 133 = .ok (.invokevirtual 34, 3) := by decide +kernel
theorem dX5_narrow_136 : decode cX5_narrow 136 = .ok (.aload_n 0, 1) := by decide +kernel
theorem dX5_narrow_137 : decode cX5_narrow 137 = .ok (.iload 6, 2) := by decide +kernel
theorem dX5_narrow_139 : decode cX5_narrow 139 = .ok (.invokevirtual 55, 3) := by decide +kernel
theorem dX5_narrow_142 : decode cX5_narrow 142 = .ok (.ireturn, 1) := by decide +kernel
set_option maxRecDepth 20000 in
theorem ggX5_lookUp_X5_isStale : GoodIn wsX5_lookUp wsX5_isStale := goodIn_r _ [6, 1, 19, 20, 21, 22, 23] (by decide +kernel) (by decide +kernel)
set_option maxRecDepth 20000 in
theorem gX5_lookUp_X5_isStale : GoodIn wsX5_lookUp (wsV RX5 69 RX5 yX5_isStale wsX5_isStale) := goodIn_app (goodIn_of _ (by decide +kernel)) ggX5_lookUp_X5_isStale
set_option maxRecDepth 20000 in
theorem ggX5_lookUp_X5_become : GoodIn wsX5_lookUp wsX5_become := goodIn_r _ [10, 1, 11, 12, 13, 5, 14, 19, 20, 21, 22, 23] (by decide +kernel) (by decide +kernel)
set_option maxRecDepth 20000 in
theorem gX5_lookUp_X5_become : GoodIn wsX5_lookUp (wsV RX5 61 RX5 yX5_become wsX5_become) := goodIn_app (goodIn_of _ (by decide +kernel)) ggX5_lookUp_X5_become
set_option maxRecDepth 20000 in
theorem ggX5_lookUp_X5_untag : GoodIn wsX5_lookUp wsX5_untag := goodIn_r _ [18, 1, 11, 12, 13, 5, 14, 19, 20, 21, 22, 23] (by decide +kernel) (by decide +kernel)
set_option maxRecDepth 20000 in
theorem gX5_lookUp_X5_untag : GoodIn wsX5_lookUp (wsV RX5 51 RX5 yX5_untag wsX5_untag) := goodIn_app (goodIn_of _ (by decide +kernel)) ggX5_lookUp_X5_untag
theorem dX5_lookUp_0 : decode cX5_lookUp 0 = .ok (.aload_n 0, 1) := by decide +kernel
theorem dX5_lookUp_1 : decode cX5_lookUp 1 = .ok (.iload_n 2, 1) := by decide +kernel
theorem dX5_lookUp_2 : decode cX5_lookUp 2 = .ok (.invokevirtual 69, 3) := by decide +kernel
theorem dX5_lookUp_5 : decode cX5_lookUp 5 = .ok (.istore_n 3, 1) := by decide +kernel
theorem dX5_lookUp_6 : decode cX5_lookUp 6 = .ok (.aload_n 0, 1) := by decide +kernel
theorem dX5_lookUp_7 : decode cX5_lookUp 7 = .ok (.iload_n 1, 1) := by decide +kernel
theorem dX5_lookUp_8 : decode cX5_lookUp 8 = .ok (.iload_n 2, 1) := by decide +kernel
theorem dX5_lookUp_9 : decode cX5_lookUp 9 = .ok (.invokevirtual 61, 3) := by decide +kernel
theorem dX5_lookUp_12 : decode cX5_lookUp 12 = .ok (.iload_n 3, 1) := by decide +kernel
theorem dX5_lookUp_13 : decode cX5_lookUp 13 = .ok (.ifCond .eq 21, 3) := by decide +kernel
theorem dX5_lookUp_16 : decode cX5_lookUp 16 = .ok (.aload_n 0, 1) := by decide +kernel
theorem dX5_lookUp_17 : decode cX5_lookUp 17 = .ok (.iload_n 1, 1) := by decide +kernel
theorem dX5_lookUp_18 : decode cX5_lookUp 18 = .ok (.iconst 1, 1) := by decide +kernel
theorem dX5_lookUp_19 : decode cX5_lookUp 19 = .ok (.invokevirtual 51, 3) := by decide +kernel
theorem dX5_lookUp_22 : decode cX5_lookUp 22 = .ok (.aload_n 0, 1) := by decide +kernel
theorem dX5_lookUp_23 : decode cX5_lookUp 23 = .ok (.getfield 7, 3) := by decide +kernel
theorem dX5_lookUp_26 : decode cX5_lookUp 26 = .ok (.sipush 2124, 3) := by decide +kernel
theorem dX5_lookUp_29 : decode cX5_lookUp 29 = .ok (.dup2, 1) := by decide +kernel
theorem dX5_lookUp_30 : decode cX5_lookUp 30 = .ok (.iaload, 1) := by decide +kernel
theorem dX5_lookUp_31 : decode cX5_lookUp 31 = .ok (.iconst 1, 1) := by decide +kernel
theorem dX5_lookUp_32 : decode cX5_lookUp 32 = .ok (.iadd, 1) := by decide +kernel
theorem dX5_lookUp_33 : decode cX5_lookUp 33 = .ok (.iastore, 1) := by decide +kernel
theorem dX5_lookUp_34 : decode cX5_lookUp 34 = .ok (.return_, 1) := by decide +kernel
set_option maxRecDepth 20000 in
theorem ggX5_look_X5_isRegister : GoodIn wsX5_look wsX5_isRegister := goodIn_r _ [5, 6, 7, 8, 4, 9] (by decide +kernel) (by decide +kernel)
set_option maxRecDepth 20000 in
theorem gX5_look_X5_isRegister : GoodIn wsX5_look (va_wsS RX5 42 yX5_isRegister wsX5_isRegister) := goodIn_app (goodIn_of _ (by decide +kernel)) ggX5_look_X5_isRegister
set_option maxRecDepth 20000 in
theorem ggX5_look_X5_against : GoodIn wsX5_look wsX5_against := goodIn_r _ [13, 1, 14, 15, 4, 16, 53, 54, 55, 56, 57] (by decide +kernel) (by decide +kernel)
set_option maxRecDepth 20000 in
theorem gX5_look_X5_against : GoodIn wsX5_look (wsV RX5 72 RX5 yX5_against wsX5_against) := goodIn_app (goodIn_of _ (by decide +kernel)) ggX5_look_X5_against
set_option maxRecDepth 20000 in
theorem ggX5_look_X5_begin : GoodIn wsX5_look wsX5_begin := goodIn_r _ [20, 21, 1, 53, 54, 55, 56, 57] (by decide +kernel) (by decide +kernel)
set_option maxRecDepth 20000 in
theorem gX5_look_X5_begin : GoodIn wsX5_look (wsV RX5 48 RX5 yX5_begin wsX5_begin) := goodIn_app (goodIn_of _ (by decide +kernel)) ggX5_look_X5_begin
set_option maxRecDepth 20000 in
theorem ggX5_look_X5_reg : GoodIn wsX5_look wsX5_reg := goodIn_r _ [16] (by decide +kernel) (by decide +kernel)
set_option maxRecDepth 20000 in
theorem gX5_look_X5_reg : GoodIn wsX5_look (va_wsS RX5 38 yX5_reg wsX5_reg) := goodIn_app (goodIn_of _ (by decide +kernel)) ggX5_look_X5_reg
set_option maxRecDepth 20000 in
theorem ggX5_look_X5_cellOf : GoodIn wsX5_look wsX5_cellOf := goodIn_r _ [25, 1, 14, 15, 4, 16, 53, 54, 55, 56, 57] (by decide +kernel) (by decide +kernel)
set_option maxRecDepth 20000 in
theorem gX5_look_X5_cellOf : GoodIn wsX5_look (wsV RX5 76 RX5 yX5_cellOf wsX5_cellOf) := goodIn_app (goodIn_of _ (by decide +kernel)) ggX5_look_X5_cellOf
set_option maxRecDepth 20000 in
theorem ggX5_look_X5_lookUp : GoodIn wsX5_look wsX5_lookUp := goodIn_r _ [29, 1, 30, 31, 32, 4, 33, 34, 35, 36, 37, 38, 39, 40, 41, 42, 43, 44, 45, 53, 54, 55, 56, 57] (by decide +kernel) (by decide +kernel)
set_option maxRecDepth 20000 in
theorem gX5_look_X5_lookUp : GoodIn wsX5_look (wsV RX5 80 RX5 yX5_lookUp wsX5_lookUp) := goodIn_app (goodIn_of _ (by decide +kernel)) ggX5_look_X5_lookUp
set_option maxRecDepth 20000 in
theorem ggX5_look_X5_keeps : GoodIn wsX5_look wsX5_keeps := goodIn_r _ [49, 50, 51, 52, 21, 53, 54, 55, 56, 57] (by decide +kernel) (by decide +kernel)
set_option maxRecDepth 20000 in
theorem gX5_look_X5_keeps : GoodIn wsX5_look (wsV RX5 55 RX5 yX5_keeps wsX5_keeps) := goodIn_app (goodIn_of _ (by decide +kernel)) ggX5_look_X5_keeps
theorem dX5_look_0 : decode cX5_look 0 = .ok (.iload_n 1, 1) := by decide +kernel
theorem dX5_look_1 : decode cX5_look 1 = .ok (.invokestatic 42, 3) := by decide +kernel
theorem dX5_look_4 : decode cX5_look 4 = .ok (.ifCond .eq 10, 3) := by decide +kernel
theorem dX5_look_7 : decode cX5_look 7 = .ok (.iload_n 2, 1) := by decide +kernel
theorem dX5_look_8 : decode cX5_look 8 = .ok (.invokestatic 42, 3) := by decide +kernel
theorem dX5_look_11 : decode cX5_look 11 = .ok (.ifCond .ne 5, 3) := by decide +kernel
theorem dX5_look_14 : decode cX5_look 14 = .ok (.iconst (-1), 1) := by decide +kernel
theorem dX5_look_15 : decode cX5_look 15 = .ok (.ireturn, 1) := by decide +kernel
theorem dX5_look_16 : decode cX5_look 16 = .ok (.aload_n 0, 1) := by decide +kernel
theorem dX5_look_17 : decode cX5_look 17 = .ok (.iload_n 2, 1) := by decide +kernel
theorem dX5_look_18 : decode cX5_look 18 = .ok (.iconst 1, 1) := by decide +kernel
theorem dX5_look_19 : decode cX5_look 19 = .ok (.iload_n 3, 1) := by decide +kernel
theorem dX5_look_20 : decode cX5_look 20 = .ok (.iconst 1, 1) := by decide +kernel
theorem dX5_look_21 : decode cX5_look 21 = .ok (.invokevirtual 72, 3) := by decide +kernel
theorem dX5_look_24 : decode cX5_look 24 = .ok (.istore 4, 2) := by decide +kernel
theorem dX5_look_26 : decode cX5_look 26 = .ok (.iload 4, 2) := by decide +kernel
theorem dX5_look_28 : decode cX5_look 28 = .ok (.ifCond .eq 6, 3) := by decide +kernel
theorem dX5_look_31 : decode cX5_look 31 = .ok (.iload 4, 2) := by decide +kernel
theorem dX5_look_33 : decode cX5_look 33 = .ok (.ireturn, 1) := by decide +kernel
theorem dX5_look_34 : decode cX5_look 34 = .ok (.aload_n 0, 1) := by decide +kernel
theorem dX5_look_35 : decode cX5_look 35 = .ok (.invokevirtual 48, 3) := by decide +kernel
theorem dX5_look_38 : decode cX5_look 38 = .ok (.aload_n 0, 1) := by decide +kernel
theorem dX5_look_39 : decode cX5_look 39 = .ok (.iload_n 1, 1) := by decide +kernel
theorem dX5_look_40 : decode cX5_look 40 = .ok (.invokestatic 38, 3) := by decide +kernel
theorem dX5_look_43 : decode cX5_look 43 = .ok (.iconst 5, 1) := by decide +kernel
theorem dX5_look_44 : decode cX5_look 44 = .ok (.aload_n 0, 1) := by decide +kernel
theorem dX5_look_45 : decode cX5_look 45 = .ok (.iload_n 2, 1) := by decide +kernel
theorem dX5_look_46 : decode cX5_look 46 = .ok (.iload_n 3, 1) := by decide +kernel
theorem dX5_look_47 : decode cX5_look 47 = .ok (.invokevirtual 76, 3) := by decide +kernel
theorem dX5_look_50 : decode cX5_look 50 = .ok (.imul, 1) := by decide +kernel
theorem dX5_look_51 : decode cX5_look 51 = .ok (.invokevirtual 80, 3) := by decide +kernel
theorem dX5_look_54 : decode cX5_look 54 = .ok (.aload_n 0, 1) := by decide +kernel
theorem dX5_look_55 : decode cX5_look 55 = .ok (.aload_n 0, 1) := by decide +kernel
theorem dX5_look_56 : decode cX5_look 56 = .ok (.getfield 7, 3) := by decide +kernel
theorem dX5_look_59 : decode cX5_look 59 = .ok (.iload_n 1, 1) := by decide +kernel
theorem dX5_look_60 : decode cX5_look 60 = .ok (.invokestatic 38, 3) := by decide +kernel
theorem dX5_look_63 : decode cX5_look 63 = .ok (.iconst 0, 1) := by decide +kernel
theorem dX5_look_64 : decode cX5_look 64 = .ok (.iadd, 1) := by decide +kernel
theorem dX5_look_65 : decode cX5_look 65 = .ok (.iaload, 1) := by decide +kernel
theorem dX5_look_66 : decode cX5_look 66 = .ok (.invokevirtual 55, 3) := by decide +kernel
theorem dX5_look_69 : decode cX5_look 69 = .ok (.ireturn, 1) := by decide +kernel
theorem dX5_laid_0 : decode cX5_laid 0 = .ok (.aload_n 0, 1) := by decide +kernel
theorem dX5_laid_1 : decode cX5_laid 1 = .ok (.getfield 7, 3) := by decide +kernel
theorem dX5_laid_4 : decode cX5_laid 4 = .ok (.sipush 2120, 3) := by decide +kernel
theorem dX5_laid_7 : decode cX5_laid 7 = .ok (.iaload, 1) := by decide +kernel
theorem dX5_laid_8 : decode cX5_laid 8 = .ok (.iconst 1, 1) := by decide +kernel
theorem dX5_laid_9 : decode cX5_laid 9 = .ok (.if_icmp .ne 48, 3) := by decide +kernel
theorem dX5_laid_12 : decode cX5_laid 12 = .ok (.aload_n 0, 1) := by decide +kernel
theorem dX5_laid_13 : decode cX5_laid 13 = .ok (.getfield 7, 3) := by decide +kernel
theorem dX5_laid_16 : decode cX5_laid 16 = .ok (.iconst 5, 1) := by decide +kernel
theorem dX5_laid_17 : decode cX5_laid 17 = .ok (.iload_n 1, 1) := by decide +kernel
theorem dX5_laid_18 : decode cX5_laid 18 = .ok (.imul, 1) := by decide +kernel
theorem dX5_laid_19 : decode cX5_laid 19 = .ok (.iconst 0, 1) := by decide +kernel
theorem dX5_laid_20 : decode cX5_laid 20 = .ok (.iadd, 1) := by decide +kernel
theorem dX5_laid_21 : decode cX5_laid 21 = .ok (.iaload, 1) := by decide +kernel
theorem dX5_laid_22 : decode cX5_laid 22 = .ok (.iconst 1, 1) := by decide +kernel
theorem dX5_laid_23 : decode cX5_laid 23 = .ok (.if_icmp .ne 34, 3) := by decide +kernel
theorem dX5_laid_26 : decode cX5_laid 26 = .ok (.aload_n 0, 1) := by decide +kernel
theorem dX5_laid_27 : decode cX5_laid 27 = .ok (.getfield 7, 3) := by decide +kernel
theorem dX5_laid_30 : decode cX5_laid 30 = .ok (.sipush 2088, 3) := by decide +kernel
theorem dX5_laid_33 : decode cX5_laid 33 = .ok (.iload_n 1, 1) := by decide +kernel
theorem dX5_laid_34 : decode cX5_laid 34 = .ok (.bipush 16, 2) := by decide +kernel
theorem dX5_laid_36 : decode cX5_laid 36 = .ok (.idiv, 1) := by decide +kernel
theorem dX5_laid_37 : decode cX5_laid 37 = .ok (.iadd, 1) := by decide +kernel
theorem dX5_laid_38 : decode cX5_laid 38 = .ok (.iaload, 1) := by decide +kernel
theorem dX5_laid_39 : decode cX5_laid 39 = .ok (.iconst 1, 1) := by decide +kernel
theorem dX5_laid_40 : decode cX5_laid 40 = .ok (.if_icmp .ne 17, 3) := by decide +kernel
theorem dX5_laid_43 : decode cX5_laid 43 = .ok (.aload_n 0, 1) := by decide +kernel
theorem dX5_laid_44 : decode cX5_laid 44 = .ok (.getfield 7, 3) := by decide +kernel
theorem dX5_laid_47 : decode cX5_laid 47 = .ok (.sipush 2104, 3) := by decide +kernel
theorem dX5_laid_50 : decode cX5_laid 50 = .ok (.iload_n 1, 1) := by decide +kernel
theorem dX5_laid_51 : decode cX5_laid 51 = .ok (.bipush 16, 2) := by decide +kernel
theorem dX5_laid_53 : decode cX5_laid 53 = .ok (.idiv, 1) := by decide +kernel
theorem dX5_laid_54 : decode cX5_laid 54 = .ok (.iadd, 1) := by decide +kernel
theorem dX5_laid_55 : decode cX5_laid 55 = .ok (.iconst 1, 1) := by decide +kernel
theorem dX5_laid_56 : decode cX5_laid 56 = .ok (.iastore, 1) := by decide +kernel
theorem dX5_laid_57 : decode cX5_laid 57 = .ok (.return_, 1) := by decide +kernel
set_option maxRecDepth 20000 in
theorem ggX5_lay_X5_isRegister : GoodIn wsX5_lay wsX5_isRegister := goodIn_r _ [4, 5, 6, 7, 3, 8] (by decide +kernel) (by decide +kernel)
set_option maxRecDepth 20000 in
theorem gX5_lay_X5_isRegister : GoodIn wsX5_lay (va_wsS RX5 42 yX5_isRegister wsX5_isRegister) := goodIn_app (goodIn_of _ (by decide +kernel)) ggX5_lay_X5_isRegister
set_option maxRecDepth 20000 in
theorem ggX5_lay_X5_against : GoodIn wsX5_lay wsX5_against := goodIn_r _ [12, 13, 14, 15, 3, 16, 45, 46, 47, 48, 49] (by decide +kernel) (by decide +kernel)
set_option maxRecDepth 20000 in
theorem gX5_lay_X5_against : GoodIn wsX5_lay (wsV RX5 72 RX5 yX5_against wsX5_against) := goodIn_app (goodIn_of _ (by decide +kernel)) ggX5_lay_X5_against
set_option maxRecDepth 20000 in
theorem ggX5_lay_X5_begin : GoodIn wsX5_lay wsX5_begin := goodIn_r _ [20, 21, 13, 45, 46, 47, 48, 49] (by decide +kernel) (by decide +kernel)
set_option maxRecDepth 20000 in
theorem gX5_lay_X5_begin : GoodIn wsX5_lay (wsV RX5 48 RX5 yX5_begin wsX5_begin) := goodIn_app (goodIn_of _ (by decide +kernel)) ggX5_lay_X5_begin
set_option maxRecDepth 20000 in
theorem ggX5_lay_X5_cellOf : GoodIn wsX5_lay wsX5_cellOf := goodIn_r _ [25, 13, 14, 15, 3, 16, 45, 46, 47, 48, 49] (by decide +kernel) (by decide +kernel)
set_option maxRecDepth 20000 in
theorem gX5_lay_X5_cellOf : GoodIn wsX5_lay (wsV RX5 76 RX5 yX5_cellOf wsX5_cellOf) := goodIn_app (goodIn_of _ (by decide +kernel)) ggX5_lay_X5_cellOf
set_option maxRecDepth 20000 in
theorem ggX5_lay_X5_reg : GoodIn wsX5_lay wsX5_reg := goodIn_r _ [16] (by decide +kernel) (by decide +kernel)
set_option maxRecDepth 20000 in
theorem gX5_lay_X5_reg : GoodIn wsX5_lay (va_wsS RX5 38 yX5_reg wsX5_reg) := goodIn_app (goodIn_of _ (by decide +kernel)) ggX5_lay_X5_reg
set_option maxRecDepth 20000 in
theorem ggX5_lay_X5_become : GoodIn wsX5_lay wsX5_become := goodIn_r _ [29, 13, 30, 31, 32, 3, 33, 45, 46, 47, 48, 49] (by decide +kernel) (by decide +kernel)
set_option maxRecDepth 20000 in
theorem gX5_lay_X5_become : GoodIn wsX5_lay (wsV RX5 61 RX5 yX5_become wsX5_become) := goodIn_app (goodIn_of _ (by decide +kernel)) ggX5_lay_X5_become
set_option maxRecDepth 20000 in
theorem ggX5_lay_X5_laid : GoodIn wsX5_lay wsX5_laid := goodIn_r _ [37, 13, 45, 46, 47, 48, 49] (by decide +kernel) (by decide +kernel)
set_option maxRecDepth 20000 in
theorem gX5_lay_X5_laid : GoodIn wsX5_lay (wsV RX5 83 RX5 yX5_laid wsX5_laid) := goodIn_app (goodIn_of _ (by decide +kernel)) ggX5_lay_X5_laid
set_option maxRecDepth 20000 in
theorem ggX5_lay_X5_keeps : GoodIn wsX5_lay wsX5_keeps := goodIn_r _ [41, 42, 43, 44, 21, 45, 46, 47, 48, 49] (by decide +kernel) (by decide +kernel)
set_option maxRecDepth 20000 in
theorem gX5_lay_X5_keeps : GoodIn wsX5_lay (wsV RX5 55 RX5 yX5_keeps wsX5_keeps) := goodIn_app (goodIn_of _ (by decide +kernel)) ggX5_lay_X5_keeps
theorem dX5_lay_0 : decode cX5_lay 0 = .ok (.iload_n 1, 1) := by decide +kernel
theorem dX5_lay_1 : decode cX5_lay 1 = .ok (.invokestatic 42, 3) := by decide +kernel
theorem dX5_lay_4 : decode cX5_lay 4 = .ok (.ifCond .eq 10, 3) := by decide +kernel
theorem dX5_lay_7 : decode cX5_lay 7 = .ok (.iload_n 3, 1) := by decide +kernel
theorem dX5_lay_8 : decode cX5_lay 8 = .ok (.invokestatic 42, 3) := by decide +kernel
theorem dX5_lay_11 : decode cX5_lay 11 = .ok (.ifCond .ne 5, 3) := by decide +kernel
theorem dX5_lay_14 : decode cX5_lay 14 = .ok (.iconst (-1), 1) := by decide +kernel
theorem dX5_lay_15 : decode cX5_lay 15 = .ok (.ireturn, 1) := by decide +kernel
theorem dX5_lay_16 : decode cX5_lay 16 = .ok (.aload_n 0, 1) := by decide +kernel
theorem dX5_lay_17 : decode cX5_lay 17 = .ok (.iload_n 1, 1) := by decide +kernel
theorem dX5_lay_18 : decode cX5_lay 18 = .ok (.iconst 2, 1) := by decide +kernel
theorem dX5_lay_19 : decode cX5_lay 19 = .ok (.iload_n 2, 1) := by decide +kernel
theorem dX5_lay_20 : decode cX5_lay 20 = .ok (.iconst 1, 1) := by decide +kernel
theorem dX5_lay_21 : decode cX5_lay 21 = .ok (.invokevirtual 72, 3) := by decide +kernel
theorem dX5_lay_24 : decode cX5_lay 24 = .ok (.istore 4, 2) := by decide +kernel
theorem dX5_lay_26 : decode cX5_lay 26 = .ok (.iload 4, 2) := by decide +kernel
theorem dX5_lay_28 : decode cX5_lay 28 = .ok (.ifCond .eq 6, 3) := by decide +kernel
theorem dX5_lay_31 : decode cX5_lay 31 = .ok (.iload 4, 2) := by decide +kernel
theorem dX5_lay_33 : decode cX5_lay 33 = .ok (.ireturn, 1) := by decide +kernel
theorem dX5_lay_34 : decode cX5_lay 34 = .ok (.aload_n 0, 1) := by decide +kernel
theorem dX5_lay_35 : decode cX5_lay 35 = .ok (.invokevirtual 48, 3) := by decide +kernel
theorem dX5_lay_38 : decode cX5_lay 38 = .ok (.aload_n 0, 1) := by decide +kernel
theorem dX5_lay_39 : decode cX5_lay 39 = .ok (.iload_n 1, 1) := by decide +kernel
theorem dX5_lay_40 : decode cX5_lay 40 = .ok (.iload_n 2, 1) := by decide +kernel
theorem dX5_lay_41 : decode cX5_lay 41 = .ok (.invokevirtual 76, 3) := by decide +kernel
theorem dX5_lay_44 : decode cX5_lay 44 = .ok (.istore 5, 2) := by decide +kernel
theorem dX5_lay_46 : decode cX5_lay 46 = .ok (.aload_n 0, 1) := by decide +kernel
theorem dX5_lay_47 : decode cX5_lay 47 = .ok (.iconst 5, 1) := by decide +kernel
theorem dX5_lay_48 : decode cX5_lay 48 = .ok (.iload 5, 2) := by decide +kernel
theorem dX5_lay_50 : decode cX5_lay 50 = .ok (.imul, 1) := by decide +kernel
theorem dX5_lay_51 : decode cX5_lay 51 = .ok (.iload_n 3, 1) := by decide +kernel
theorem dX5_lay_52 : decode cX5_lay 52 = .ok (.invokestatic 38, 3) := by decide +kernel
theorem dX5_lay_55 : decode cX5_lay 55 = .ok (.invokevirtual 61, 3) := by decide +kernel
theorem dX5_lay_58 : decode cX5_lay 58 = .ok (.aload_n 0, 1) := by decide +kernel
theorem dX5_lay_59 : decode cX5_lay 59 = .ok (.iload 5, 2) := by decide +kernel
theorem dX5_lay_61 : decode cX5_lay 61 = .ok (.invokevirtual 83, 3) := by decide +kernel
theorem dX5_lay_64 : decode cX5_lay 64 = .ok (.aload_n 0, 1) := by decide +kernel
theorem dX5_lay_65 : decode cX5_lay 65 = .ok (.iload 5, 2) := by decide +kernel
theorem dX5_lay_67 : decode cX5_lay 67 = .ok (.invokevirtual 55, 3) := by decide +kernel
theorem dX5_lay_70 : decode cX5_lay 70 = .ok (.ireturn, 1) := by decide +kernel
set_option maxRecDepth 20000 in
theorem ggX5_block_X5_isRegister : GoodIn wsX5_block wsX5_isRegister := goodIn_r _ [7, 8, 9, 10, 6, 11] (by decide +kernel) (by decide +kernel)
set_option maxRecDepth 20000 in
theorem gX5_block_X5_isRegister : GoodIn wsX5_block (va_wsS RX5 42 yX5_isRegister wsX5_isRegister) := goodIn_app (goodIn_of _ (by decide +kernel)) ggX5_block_X5_isRegister
set_option maxRecDepth 20000 in
theorem ggX5_block_X5_in : GoodIn wsX5_block wsX5_in := goodIn_r _ [11] (by decide +kernel) (by decide +kernel)
set_option maxRecDepth 20000 in
theorem gX5_block_X5_in : GoodIn wsX5_block (va_wsS RX5 25 yX5_in wsX5_in) := goodIn_app (goodIn_of _ (by decide +kernel)) ggX5_block_X5_in
set_option maxRecDepth 20000 in
theorem ggX5_block_X5_against : GoodIn wsX5_block wsX5_against := goodIn_r _ [15, 3, 16, 17, 6, 18, 51, 52, 53, 54, 55] (by decide +kernel) (by decide +kernel)
set_option maxRecDepth 20000 in
theorem gX5_block_X5_against : GoodIn wsX5_block (wsV RX5 72 RX5 yX5_against wsX5_against) := goodIn_app (goodIn_of _ (by decide +kernel)) ggX5_block_X5_against
set_option maxRecDepth 20000 in
theorem ggX5_block_X5_begin : GoodIn wsX5_block wsX5_begin := goodIn_r _ [22, 23, 3, 51, 52, 53, 54, 55] (by decide +kernel) (by decide +kernel)
set_option maxRecDepth 20000 in
theorem gX5_block_X5_begin : GoodIn wsX5_block (wsV RX5 48 RX5 yX5_begin wsX5_begin) := goodIn_app (goodIn_of _ (by decide +kernel)) ggX5_block_X5_begin
set_option maxRecDepth 20000 in
theorem ggX5_block_X5_cellOf : GoodIn wsX5_block wsX5_cellOf := goodIn_r _ [27, 3, 16, 17, 6, 18, 51, 52, 53, 54, 55] (by decide +kernel) (by decide +kernel)
set_option maxRecDepth 20000 in
theorem gX5_block_X5_cellOf : GoodIn wsX5_block (wsV RX5 76 RX5 yX5_cellOf wsX5_cellOf) := goodIn_app (goodIn_of _ (by decide +kernel)) ggX5_block_X5_cellOf
set_option maxRecDepth 20000 in
theorem ggX5_block_X5_set : GoodIn wsX5_block wsX5_set := goodIn_r _ [31, 3, 51, 52, 53, 54, 55] (by decide +kernel) (by decide +kernel)
set_option maxRecDepth 20000 in
theorem gX5_block_X5_set : GoodIn wsX5_block (wsV RX5 34 RX5 yX5_set wsX5_set) := goodIn_app (goodIn_of _ (by decide +kernel)) ggX5_block_X5_set
set_option maxRecDepth 20000 in
theorem ggX5_block_X5_isStale : GoodIn wsX5_block wsX5_isStale := goodIn_r _ [35, 3, 51, 52, 53, 54, 55] (by decide +kernel) (by decide +kernel)
set_option maxRecDepth 20000 in
theorem gX5_block_X5_isStale : GoodIn wsX5_block (wsV RX5 69 RX5 yX5_isStale wsX5_isStale) := goodIn_app (goodIn_of _ (by decide +kernel)) ggX5_block_X5_isStale
set_option maxRecDepth 20000 in
theorem ggX5_block_X5_untag : GoodIn wsX5_block wsX5_untag := goodIn_r _ [39, 3, 28, 29, 30, 6, 31, 51, 52, 53, 54, 55] (by decide +kernel) (by decide +kernel)
set_option maxRecDepth 20000 in
theorem gX5_block_X5_untag : GoodIn wsX5_block (wsV RX5 51 RX5 yX5_untag wsX5_untag) := goodIn_app (goodIn_of _ (by decide +kernel)) ggX5_block_X5_untag
set_option maxRecDepth 20000 in
theorem ggX5_block_X5_laid : GoodIn wsX5_block wsX5_laid := goodIn_r _ [43, 3, 51, 52, 53, 54, 55] (by decide +kernel) (by decide +kernel)
set_option maxRecDepth 20000 in
theorem gX5_block_X5_laid : GoodIn wsX5_block (wsV RX5 83 RX5 yX5_laid wsX5_laid) := goodIn_app (goodIn_of _ (by decide +kernel)) ggX5_block_X5_laid
set_option maxRecDepth 20000 in
theorem ggX5_block_X5_keeps : GoodIn wsX5_block wsX5_keeps := goodIn_r _ [47, 48, 49, 50, 23, 51, 52, 53, 54, 55] (by decide +kernel) (by decide +kernel)
set_option maxRecDepth 20000 in
theorem gX5_block_X5_keeps : GoodIn wsX5_block (wsV RX5 55 RX5 yX5_keeps wsX5_keeps) := goodIn_app (goodIn_of _ (by decide +kernel)) ggX5_block_X5_keeps
theorem dX5_block_0 : decode cX5_block 0 = .ok (.iload_n 1, 1) := by decide +kernel
theorem dX5_block_1 : decode cX5_block 1 = .ok (.invokestatic 42, 3) := by decide +kernel
theorem dX5_block_4 : decode cX5_block 4 = .ok (.ifCond .eq 23, 3) := by decide +kernel
theorem dX5_block_7 : decode cX5_block 7 = .ok (.iload_n 3, 1) := by decide +kernel
theorem dX5_block_8 : decode cX5_block 8 = .ok (.invokestatic 42, 3) := by decide +kernel
theorem dX5_block_11 : decode cX5_block 11 = .ok (.ifCond .eq 16, 3) := by decide +kernel
theorem dX5_block_14 : decode cX5_block 14 = .ok (.iload 5, 2) := by decide +kernel
theorem dX5_block_16 : decode cX5_block 16 = .ok (.i2l, 1) := by decide +kernel
theorem dX5_block_17 : decode cX5_block 17 = .ok (.lconst 1, 1) := by decide +kernel
theorem dX5_block_18 : decode cX5_block 18 = .ok (.ldc2_w 46, 3) := by decide +kernel
theorem dX5_block_21 : decode cX5_block 21 = .ok (.invokestatic 25, 3) := by decide +kernel
theorem dX5_block_24 : decode cX5_block 24 = .ok (.ifCond .ne 5, 3) := by decide +kernel
theorem dX5_block_27 : decode cX5_block 27 = .ok (.iconst (-1), 1) := by decide +kernel
theorem dX5_block_28 : decode cX5_block 28 = .ok (.ireturn, 1) := by decide +kernel
theorem dX5_block_29 : decode cX5_block 29 = .ok (.aload_n 0, 1) := by decide +kernel
theorem dX5_block_30 : decode cX5_block 30 = .ok (.iload_n 1, 1) := by decide +kernel
theorem dX5_block_31 : decode cX5_block 31 = .ok (.iconst 2, 1) := by decide +kernel
theorem dX5_block_32 : decode cX5_block 32 = .ok (.iload_n 2, 1) := by decide +kernel
theorem dX5_block_33 : decode cX5_block 33 = .ok (.iload 5, 2) := by decide +kernel
theorem dX5_block_35 : decode cX5_block 35 = .ok (.invokevirtual 72, 3) := by decide +kernel
theorem dX5_block_38 : decode cX5_block 38 = .ok (.istore 6, 2) := by decide +kernel
theorem dX5_block_40 : decode cX5_block 40 = .ok (.iload 6, 2) := by decide +kernel
theorem dX5_block_42 : decode cX5_block 42 = .ok (.ifCond .eq 8, 3) := by decide +kernel
theorem dX5_block_45 : decode cX5_block 45 = .ok (.iload 6, 2) := by decide +kernel
theorem dX5_block_47 : decode cX5_block 47 = .ok (.goto 13, 3) := by decide +kernel
theorem dX5_block_50 : decode cX5_block 50 = .ok (.aload_n 0, 1) := by decide +kernel
theorem dX5_block_51 : decode cX5_block 51 = .ok (.iload_n 3, 1) := by decide +kernel
theorem dX5_block_52 : decode cX5_block 52 = .ok (.iconst 1, 1) := by decide +kernel
theorem dX5_block_53 : decode cX5_block 53 = .ok (.iload 4, 2) := by decide +kernel
theorem dX5_block_55 : decode cX5_block 55 = .ok (.iload 5, 2) := by decide +kernel
theorem dX5_block_57 : decode cX5_block 57 = .ok (.invokevirtual 72, 3) := by decide +kernel
theorem dX5_block_60 : decode cX5_block 60 = .ok (.istore 6, 2) := by decide +kernel
theorem dX5_block_62 : decode cX5_block 62 = .ok (.iload 6, 2) := by decide +kernel
theorem dX5_block_64 : decode cX5_block 64 = .ok (.ifCond .eq 6, 3) := by decide +kernel
theorem dX5_block_67 : decode cX5_block 67 = .ok (.iload 6, 2) := by decide +kernel
theorem dX5_block_69 : decode cX5_block 69 = .ok (.ireturn, 1) := by decide +kernel
theorem dX5_block_70 : decode cX5_block 70 = .ok (.aload_n 0, 1) := by decide +kernel
theorem dX5_block_71 : decode cX5_block 71 = .ok (.invokevirtual 48, 3) := by decide +kernel
theorem dX5_block_74 : decode cX5_block 74 = .ok (.aload_n 0, 1) := by decide +kernel
theorem dX5_block_75 : decode cX5_block 75 = .ok (.iload_n 1, 1) := by decide +kernel
theorem dX5_block_76 : decode cX5_block 76 = .ok (.iload_n 2, 1) := by decide +kernel
theorem dX5_block_77 : decode cX5_block 77 = .ok (.invokevirtual 76, 3) := by decide +kernel
theorem dX5_block_80 : decode cX5_block 80 = .ok (.istore 7, 2) := by decide +kernel
theorem dX5_block_82 : decode cX5_block 82 = .ok (.aload_n 0, 1) := by decide +kernel
theorem dX5_block_83 : decode cX5_block 83 = .ok (.iload_n 3, 1) := by decide +kernel
theorem dX5_block_84 : decode cX5_block 84 = .ok (.iload 4, 2) := by decide +kernel
theorem dX5_block_86 : decode cX5_block 86 = .ok (.invokevirtual 76, 3) := by decide +kernel
theorem dX5_block_89 : decode cX5_block 89 = .ok (.istore 8, 2) := by decide +kernel
theorem dX5_block_91 : decode cX5_block 91 = .ok (.iconst 0, 1) := by decide +kernel
theorem dX5_block_92 : decode cX5_block 92 = .ok (.istore 9, 2) := by decide +kernel
theorem dX5_block_94 : decode cX5_block 94 = .ok (.iload 9, 2) := by decide +kernel
theorem dX5_block_96 : decode cX5_block 96 = .ok (.iconst 5, 1) := by decide +kernel
theorem dX5_block_97 : decode cX5_block 97 = .ok (.iload 5, 2) := by decide +kernel
theorem dX5_block_99 : decode cX5_block 99 = .ok (.imul, 1) := by decide +kernel
theorem dX5_block_100 : decode cX5_block 100 = .ok (.if_icmp .ge 28, 3) := by decide +kernel
theorem dX5_block_103 : decode cX5_block 103 = .ok (.aload_n 0, 1) := by decide +kernel
theorem dX5_block_104 : decode cX5_block 104 = .ok (.getfield 20, 3) := by decide +kernel
theorem dX5_block_107 : decode cX5_block 107 = .ok (.iload 9, 2) := by decide +kernel
theorem dX5_block_109 : decode cX5_block 109 = .ok (.aload_n 0, 1) := by decide +kernel
theorem dX5_block_110 : decode cX5_block 110 = .ok (.getfield 7, 3) := by decide +kernel
theorem dX5_block_113 : decode cX5_block 113 = .ok (.iconst 5, 1) := by decide +kernel
theorem dX5_block_114 : decode cX5_block 114 = .ok (.iload 8, 2) := by decide +kernel
theorem dX5_block_116 : decode cX5_block 116 = .ok (.imul, 1) := by decide +kernel
theorem dX5_block_117 : decode cX5_block 117 = .ok (.iload 9, 2) := by decide +kernel
theorem dX5_block_119 : decode cX5_block 119 = .ok (.iadd, 1) := by decide +kernel
theorem dX5_block_120 : decode cX5_block 120 = .ok (.iaload, 1) := by decide +kernel
theorem dX5_block_121 : decode cX5_block 121 = .ok (.iastore, 1) := by decide +kernel
theorem dX5_block_122 : decode cX5_block 122 = .ok (.iinc 9 1, 3) := by decide +kernel
theorem dX5_block_125 : decode cX5_block 125 = .ok (.goto (-31), 3) := by decide +kernel
theorem dX5_block_128 : decode cX5_block 128 = .ok (.iconst 0, 1) := by decide +kernel
theorem dX5_block_129 : decode cX5_block 129 = .ok (.istore 9, 2) := by decide +kernel
theorem dX5_block_131 : decode cX5_block 131 = .ok (.iload 9, 2) := by decide +kernel
theorem dX5_block_133 : decode cX5_block 133 = .ok (.iload 5, 2) := by decide +kernel
theorem dX5_block_135 : decode cX5_block 135 = .ok (.if_icmp .ge 114, 3) := by decide +kernel
theorem dX5_block_138 : decode cX5_block 138 = .ok (.iconst 5, 1) := by decide +kernel
theorem dX5_block_139 : decode cX5_block 139 = .ok (.iload 7, 2) := by decide +kernel
theorem dX5_block_141 : decode cX5_block 141 = .ok (.iload 9, 2) := by decide +kernel
theorem dX5_block_143 : decode cX5_block 143 = .ok (.iadd, 1) := by decide +kernel
theorem dX5_block_144 : decode cX5_block 144 = .ok (.imul, 1) := by decide +kernel
theorem dX5_block_145 : decode cX5_block 145 = .ok (.istore 10, 2) := by decide +kernel
theorem dX5_block_147 : decode cX5_block 147 = .ok (.aload_n 0, 1) := by decide +kernel
theorem dX5_block_148 : decode cX5_block 148 = .ok (.iload 10, 2) := by decide +kernel
theorem dX5_block_150 : decode cX5_block 150 = .ok (.aload_n 0, 1) := by decide +kernel
theorem dX5_block_151 : decode cX5_block 151 = .ok (.getfield 20, 3) := by decide +kernel
theorem dX5_block_154 : decode cX5_block 154 = .ok (.iconst 5, 1) := by decide +kernel
theorem dX5_block_155 : decode cX5_block 155 = .ok (.iload 9, 2) := by decide +kernel
theorem dX5_block_157 : decode cX5_block 157 = .ok (.imul, 1) := by decide +kernel
theorem dX5_block_158 : decode cX5_block 158 = .ok (.iaload, 1) := by decide +kernel
theorem dX5_block_159 : decode cX5_block 159 = .ok (.aload_n 0, 1) := by decide +kernel
theorem dX5_block_160 : decode cX5_block 160 = .ok (.getfield 20, 3) := by decide +kernel
theorem dX5_block_163 : decode cX5_block 163 = .ok (.iconst 5, 1) := by decide +kernel
theorem dX5_block_164 : decode cX5_block 164 = .ok (.iload 9, 2) := by decide +kernel
theorem dX5_block_166 : decode cX5_block 166 = .ok (.imul, 1) := by decide +kernel
theorem dX5_block_167 : decode cX5_block 167 = .ok (.iconst 1, 1) := by decide +kernel
theorem dX5_block_168 : decode cX5_block 168 = .ok (.iadd, 1) := by decide +kernel
theorem dX5_block_169 : decode cX5_block 169 = .ok (.iaload, 1) := by decide +kernel
theorem dX5_block_170 : decode cX5_block 170 = .ok (.aload_n 0, 1) := by decide +kernel
theorem dX5_block_171 : decode cX5_block 171 = .ok (.getfield 20, 3) := by decide +kernel
theorem dX5_block_174 : decode cX5_block 174 = .ok (.iconst 5, 1) := by decide +kernel
theorem dX5_block_175 : decode cX5_block 175 = .ok (.iload 9, 2) := by decide +kernel
theorem dX5_block_177 : decode cX5_block 177 = .ok (.imul, 1) := by decide +kernel
theorem dX5_block_178 : decode cX5_block 178 = .ok (.iconst 2, 1) := by decide +kernel
theorem dX5_block_179 : decode cX5_block 179 = .ok (.iadd, 1) := by decide +kernel
theorem dX5_block_180 : decode cX5_block 180 = .ok (.iaload, 1) := by decide +kernel
theorem dX5_block_181 : decode cX5_block 181 = .ok (.aload_n 0, 1) := by decide +kernel
theorem dX5_block_182 : decode cX5_block 182 = .ok (.getfield 20, 3) := by decide +kernel
theorem dX5_block_185 : decode cX5_block 185 = .ok (.iconst 5, 1) := by decide +kernel
theorem dX5_block_186 : decode cX5_block 186 = .ok (.iload 9, 2) := by decide +kernel
theorem dX5_block_188 : decode cX5_block 188 = .ok (.imul, 1) := by decide +kernel
theorem dX5_block_189 : decode cX5_block 189 = .ok (.iconst 3, 1) := by decide +kernel
theorem dX5_block_190 : decode cX5_block 190 = .ok (.iadd, 1) := by decide +kernel
theorem dX5_block_191 : decode cX5_block 191 = .ok (.iaload, 1) := by decide +kernel
theorem dX5_block_192 : decode cX5_block 192 = .ok (.aload_n 0, 1) := by decide +kernel
theorem dX5_block_193 : decode cX5_block 193 = .ok (.getfield 20, 3) := by decide +kernel
theorem dX5_block_196 : decode cX5_block 196 = .ok (.iconst 5, 1) := by decide +kernel
theorem dX5_block_197 : decode cX5_block 197 = .ok (.iload 9, 2) := by decide +kernel
theorem dX5_block_199 : decode cX5_block 199 = .ok (.imul, 1) := by decide +kernel
theorem dX5_block_200 : decode cX5_block 200 = .ok (.iconst 4, 1) := by decide +kernel
theorem dX5_block_201 : decode cX5_block 201 = .ok (.iadd, 1) := by decide +kernel
theorem dX5_block_202 : decode cX5_block 202 = .ok (.iaload, 1) := by decide +kernel
theorem dX5_block_203 : decode cX5_block 203 = .ok (.invokevirtual 34, 3) := by decide +kernel
theorem dX5_block_206 : decode cX5_block 206 = .ok (.aload_n 0, 1) := by decide +kernel
theorem dX5_block_207 : decode cX5_block 207 = .ok (.iload 10, 2) := by decide +kernel
theorem dX5_block_209 : decode cX5_block 209 = .ok (.invokevirtual 69, 3) := by decide +kernel
theorem dX5_block_212 : decode cX5_block 212 = .ok (.ifCond .eq 22, 3) := by decide +kernel
theorem dX5_block_215 : decode cX5_block 215 = .ok (.aload_n 0, 1) := by decide +kernel
theorem dX5_block_216 : decode cX5_block 216 = .ok (.iload 10, 2) := by decide +kernel
theorem dX5_block_218 : decode cX5_block 218 = .ok (.iconst 1, 1) := by decide +kernel
theorem dX5_block_219 : decode cX5_block 219 = .ok (.invokevirtual 51, 3) := by decide +kernel
theorem dX5_block_222 : decode cX5_block 222 = .ok (.aload_n 0, 1) := by decide +kernel
theorem dX5_block_223 : decode cX5_block 223 = .ok (.getfield 7, 3) := by decide +kernel
theorem dX5_block_226 : decode cX5_block 226 = .ok (.sipush 2124, 3) := by decide +kernel
theorem dX5_block_229 : decode cX5_block 229 = .ok (.dup2, 1) := by decide +kernel
theorem dX5_block_230 : decode cX5_block 230 = .ok (.iaload, 1) := by decide +kernel
theorem dX5_block_231 : decode cX5_block 231 = .ok (.iconst 1, 1) := by decide +kernel
theorem dX5_block_232 : decode cX5_block 232 = .ok (.iadd, 1) := by decide +kernel
theorem dX5_block_233 : decode cX5_block 233 = .ok (.iastore, 1) := by decide +kernel
theorem dX5_block_234 : decode cX5_block 234 = .ok (.aload_n 0, 1) := by decide +kernel
theorem dX5_block_235 : decode cX5_block 235 = .ok (.iload 7, 2) := by decide +kernel
theorem dX5_block_237 : decode cX5_block 237 = .ok (.iload 9, 2) := by decide +kernel
theorem dX5_block_239 : decode cX5_block 239 = .ok (.iadd, 1) := by decide +kernel
theorem dX5_block_240 : decode cX5_block 240 = .ok (.invokevirtual 83, 3) := by decide +kernel
theorem dX5_block_243 : decode cX5_block 243 = .ok (.iinc 9 1, 3) := by decide +kernel
theorem dX5_block_246 : decode cX5_block 246 = .ok (.goto (-115), 3) := by decide +kernel
theorem dX5_block_249 : decode cX5_block 249 = .ok (.aload_n 0, 1) := by decide +kernel
theorem dX5_block_250 : decode cX5_block 250 = .ok (.iload 5, 2) := by decide +kernel
theorem dX5_block_252 : decode cX5_block 252 = .ok (.invokevirtual 55, 3) := by decide +kernel
theorem dX5_block_255 : decode cX5_block 255 = .ok (.ireturn, 1) := by decide +kernel
set_option maxRecDepth 20000 in
theorem ggX5_sweep_X5_begin : GoodIn wsX5_sweep wsX5_begin := goodIn_r _ [6, 7, 1, 15, 16, 17, 18, 19] (by decide +kernel) (by decide +kernel)
set_option maxRecDepth 20000 in
theorem gX5_sweep_X5_begin : GoodIn wsX5_sweep (wsV RX5 48 RX5 yX5_begin wsX5_begin) := goodIn_app (goodIn_of _ (by decide +kernel)) ggX5_sweep_X5_begin
set_option maxRecDepth 20000 in
theorem ggX5_sweep_X5_keeps : GoodIn wsX5_sweep wsX5_keeps := goodIn_r _ [11, 12, 13, 14, 7, 15, 16, 17, 18, 19] (by decide +kernel) (by decide +kernel)
set_option maxRecDepth 20000 in
theorem gX5_sweep_X5_keeps : GoodIn wsX5_sweep (wsV RX5 55 RX5 yX5_keeps wsX5_keeps) := goodIn_app (goodIn_of _ (by decide +kernel)) ggX5_sweep_X5_keeps
theorem dX5_sweep_0 : decode cX5_sweep 0 = .ok (.aload_n 0, 1) := by decide +kernel
theorem dX5_sweep_1 : decode cX5_sweep 1 = .ok (.getfield 7, 3) := by decide +kernel
theorem dX5_sweep_4 : decode cX5_sweep 4 = .ok (.sipush 2120, 3) := by decide +kernel
theorem dX5_sweep_7 : decode cX5_sweep 7 = .ok (.iaload, 1) := by decide +kernel
theorem dX5_sweep_8 : decode cX5_sweep 8 = .ok (.iconst 1, 1) := by decide +kernel
theorem dX5_sweep_9 : decode cX5_sweep 9 = .ok (.if_icmp .ne 6, 3) := by decide +kernel
theorem dX5_sweep_12 : decode cX5_sweep 12 = .ok (.bipush (-2), 2) := by decide +kernel
theorem dX5_sweep_14 : decode cX5_sweep 14 = .ok (.ireturn, 1) := by decide +kernel
theorem dX5_sweep_15 : decode cX5_sweep 15 = .ok (.aload_n 0, 1) := by decide +kernel
theorem dX5_sweep_16 : decode cX5_sweep 16 = .ok (.invokevirtual 48, 3) := by decide +kernel
theorem dX5_sweep_19 : decode cX5_sweep 19 = .ok (.iconst 0, 1) := by decide +kernel
theorem dX5_sweep_20 : decode cX5_sweep 20 = .ok (.istore_n 1, 1) := by decide +kernel
theorem dX5_sweep_21 : decode cX5_sweep 21 = .ok (.iconst 0, 1) := by decide +kernel
theorem dX5_sweep_22 : decode cX5_sweep 22 = .ok (.istore_n 2, 1) := by decide +kernel
theorem dX5_sweep_23 : decode cX5_sweep 23 = .ok (.iload_n 2, 1) := by decide +kernel
theorem dX5_sweep_24 : decode cX5_sweep 24 = .ok (.sipush 256, 3) := by decide +kernel
theorem dX5_sweep_27 : decode cX5_sweep 27 = .ok (.if_icmp .ge 51, 3) := by decide +kernel
theorem dX5_sweep_30 : decode cX5_sweep 30 = .ok (.aload_n 0, 1) := by decide +kernel
theorem dX5_sweep_31 : decode cX5_sweep 31 = .ok (.getfield 7, 3) := by decide +kernel
theorem dX5_sweep_34 : decode cX5_sweep 34 = .ok (.sipush 1576, 3) := by decide +kernel
theorem dX5_sweep_37 : decode cX5_sweep 37 = .ok (.iload_n 2, 1) := by decide +kernel
theorem dX5_sweep_38 : decode cX5_sweep 38 = .ok (.iadd, 1) := by decide +kernel
theorem dX5_sweep_39 : decode cX5_sweep 39 = .ok (.aload_n 0, 1) := by decide +kernel
theorem dX5_sweep_40 : decode cX5_sweep 40 = .ok (.getfield 7, 3) := by decide +kernel
theorem dX5_sweep_43 : decode cX5_sweep 43 = .ok (.sipush 1320, 3) := by decide +kernel
theorem dX5_sweep_46 : decode cX5_sweep 46 = .ok (.iload_n 2, 1) := by decide +kernel
theorem dX5_sweep_47 : decode cX5_sweep 47 = .ok (.iadd, 1) := by decide +kernel
theorem dX5_sweep_48 : decode cX5_sweep 48 = .ok (.iaload, 1) := by decide +kernel
theorem dX5_sweep_49 : decode cX5_sweep 49 = .ok (.iconst 2, 1) := by decide +kernel
theorem dX5_sweep_50 : decode cX5_sweep 50 = .ok (.if_icmp .ne 7, 3) := by decide +kernel
theorem dX5_sweep_53 : decode cX5_sweep 53 = .ok (.iconst 1, 1) := by decide +kernel
theorem dX5_sweep_54 : decode cX5_sweep 54 = .ok (.goto 4, 3) := by decide +kernel
theorem dX5_sweep_57 : decode cX5_sweep 57 = .ok (.iconst 0, 1) := by decide +kernel
theorem dX5_sweep_58 : decode cX5_sweep 58 = .ok (.iastore, 1) := by decide +kernel
theorem dX5_sweep_59 : decode cX5_sweep 59 = .ok (.iload_n 1, 1) := by decide +kernel
theorem dX5_sweep_60 : decode cX5_sweep 60 = .ok (.aload_n 0, 1) := by decide +kernel
theorem dX5_sweep_61 : decode cX5_sweep 61 = .ok (.getfield 7, 3) := by decide +kernel
theorem dX5_sweep_64 : decode cX5_sweep 64 = .ok (.sipush 1576, 3) := by decide +kernel
theorem dX5_sweep_67 : decode cX5_sweep 67 = .ok (.iload_n 2, 1) := by decide +kernel
theorem dX5_sweep_68 : decode cX5_sweep 68 = .ok (.iadd, 1) := by decide +kernel
theorem dX5_sweep_69 : decode cX5_sweep 69 = .ok (.iaload, 1) := by decide +kernel
theorem dX5_sweep_70 : decode cX5_sweep 70 = .ok (.iadd, 1) := by decide +kernel
theorem dX5_sweep_71 : decode cX5_sweep 71 = .ok (.istore_n 1, 1) := by decide +kernel
theorem dX5_sweep_72 : decode cX5_sweep 72 = .ok (.iinc 2 1, 3) := by decide +kernel
theorem dX5_sweep_75 : decode cX5_sweep 75 = .ok (.goto (-52), 3) := by decide +kernel
theorem dX5_sweep_78 : decode cX5_sweep 78 = .ok (.iconst 0, 1) := by decide +kernel
theorem dX5_sweep_79 : decode cX5_sweep 79 = .ok (.istore_n 2, 1) := by decide +kernel
theorem dX5_sweep_80 : decode cX5_sweep 80 = .ok (.iload_n 2, 1) := by decide +kernel
theorem dX5_sweep_81 : decode cX5_sweep 81 = .ok (.bipush 16, 2) := by decide +kernel
theorem dX5_sweep_83 : decode cX5_sweep 83 = .ok (.if_icmp .ge 31, 3) := by decide +kernel
theorem dX5_sweep_86 : decode cX5_sweep 86 = .ok (.aload_n 0, 1) := by decide +kernel
theorem dX5_sweep_87 : decode cX5_sweep 87 = .ok (.getfield 7, 3) := by decide +kernel
theorem dX5_sweep_90 : decode cX5_sweep 90 = .ok (.sipush 2088, 3) := by decide +kernel
theorem dX5_sweep_93 : decode cX5_sweep 93 = .ok (.iload_n 2, 1) := by decide +kernel
theorem dX5_sweep_94 : decode cX5_sweep 94 = .ok (.iadd, 1) := by decide +kernel
theorem dX5_sweep_95 : decode cX5_sweep 95 = .ok (.iconst 0, 1) := by decide +kernel
theorem dX5_sweep_96 : decode cX5_sweep 96 = .ok (.iastore, 1) := by decide +kernel
theorem dX5_sweep_97 : decode cX5_sweep 97 = .ok (.aload_n 0, 1) := by decide +kernel
theorem dX5_sweep_98 : decode cX5_sweep 98 = .ok (.getfield 7, 3) := by decide +kernel
theorem dX5_sweep_101 : decode cX5_sweep 101 = .ok (.sipush 2104, 3) := by decide +kernel
theorem dX5_sweep_104 : decode cX5_sweep 104 = .ok (.iload_n 2, 1) := by decide +kernel
theorem dX5_sweep_105 : decode cX5_sweep 105 = .ok (.iadd, 1) := by decide +kernel
theorem dX5_sweep_106 : decode cX5_sweep 106 = .ok (.iconst 0, 1) := by decide +kernel
theorem dX5_sweep_107 : decode cX5_sweep 107 = .ok (.iastore, 1) := by decide +kernel
theorem dX5_sweep_108 : decode cX5_sweep 108 = .ok (.iinc 2 1, 3) := by decide +kernel
theorem dX5_sweep_111 : decode cX5_sweep 111 = .ok (.goto (-31), 3) := by decide +kernel
theorem dX5_sweep_114 : decode cX5_sweep 114 = .ok (.aload_n 0, 1) := by decide +kernel
theorem dX5_sweep_115 : decode cX5_sweep 115 = .ok (.getfield 7, 3) := by decide +kernel
theorem dX5_sweep_118 : decode cX5_sweep 118 = .ok (.sipush 2120, 3) := by decide +kernel
theorem dX5_sweep_121 : decode cX5_sweep 121 = .ok (.iconst 1, 1) := by decide +kernel
theorem dX5_sweep_122 : decode cX5_sweep 122 = .ok (.iastore, 1) := by decide +kernel
theorem dX5_sweep_123 : decode cX5_sweep 123 = .ok (.aload_n 0, 1) := by decide +kernel
theorem dX5_sweep_124 : decode cX5_sweep 124 = .ok (.iload_n 1, 1) := by decide +kernel
theorem dX5_sweep_125 : decode cX5_sweep 125 = .ok (.invokevirtual 55, 3) := by decide +kernel
theorem dX5_sweep_128 : decode cX5_sweep 128 = .ok (.ireturn, 1) := by decide +kernel
set_option maxRecDepth 20000 in
theorem ggX5_clean_X5_isStale : GoodIn wsX5_clean wsX5_isStale := goodIn_r _ [5, 6, 15, 16, 17, 18, 19] (by decide +kernel) (by decide +kernel)
set_option maxRecDepth 20000 in
theorem gX5_clean_X5_isStale : GoodIn wsX5_clean (wsV RX5 69 RX5 yX5_isStale wsX5_isStale) := goodIn_app (goodIn_of _ (by decide +kernel)) ggX5_clean_X5_isStale
set_option maxRecDepth 20000 in
theorem ggX5_clean_X5_untag : GoodIn wsX5_clean wsX5_untag := goodIn_r _ [10, 6, 11, 12, 13, 4, 14, 15, 16, 17, 18, 19] (by decide +kernel) (by decide +kernel)
set_option maxRecDepth 20000 in
theorem gX5_clean_X5_untag : GoodIn wsX5_clean (wsV RX5 51 RX5 yX5_untag wsX5_untag) := goodIn_app (goodIn_of _ (by decide +kernel)) ggX5_clean_X5_untag
theorem dX5_clean_0 : decode cX5_clean 0 = .ok (.iconst 0, 1) := by decide +kernel
theorem dX5_clean_1 : decode cX5_clean 1 = .ok (.istore_n 3, 1) := by decide +kernel
theorem dX5_clean_2 : decode cX5_clean 2 = .ok (.iconst 0, 1) := by decide +kernel
theorem dX5_clean_3 : decode cX5_clean 3 = .ok (.istore 4, 2) := by decide +kernel
theorem dX5_clean_5 : decode cX5_clean 5 = .ok (.iload 4, 2) := by decide +kernel
theorem dX5_clean_7 : decode cX5_clean 7 = .ok (.iload_n 2, 1) := by decide +kernel
theorem dX5_clean_8 : decode cX5_clean 8 = .ok (.if_icmp .ge 36, 3) := by decide +kernel
theorem dX5_clean_11 : decode cX5_clean 11 = .ok (.aload_n 0, 1) := by decide +kernel
theorem dX5_clean_12 : decode cX5_clean 12 = .ok (.iload_n 1, 1) := by decide +kernel
theorem dX5_clean_13 : decode cX5_clean 13 = .ok (.iconst 5, 1) := by decide +kernel
theorem dX5_clean_14 : decode cX5_clean 14 = .ok (.iload 4, 2) := by decide +kernel
theorem dX5_clean_16 : decode cX5_clean 16 = .ok (.imul, 1) := by decide +kernel
theorem dX5_clean_17 : decode cX5_clean 17 = .ok (.iadd, 1) := by decide +kernel
theorem dX5_clean_18 : decode cX5_clean 18 = .ok (.invokevirtual 69, 3) := by decide +kernel
theorem dX5_clean_21 : decode cX5_clean 21 = .ok (.ifCond .eq 17, 3) := by decide +kernel
theorem dX5_clean_24 : decode cX5_clean 24 = .ok (.aload_n 0, 1) := by decide +kernel
theorem dX5_clean_25 : decode cX5_clean 25 = .ok (.iload_n 1, 1) := by decide +kernel
theorem dX5_clean_26 : decode cX5_clean 26 = .ok (.iconst 5, 1) := by decide +kernel
theorem dX5_clean_27 : decode cX5_clean 27 = .ok (.iload 4, 2) := by decide +kernel
theorem dX5_clean_29 : decode cX5_clean 29 = .ok (.imul, 1) := by decide +kernel
theorem dX5_clean_30 : decode cX5_clean 30 = .ok (.iadd, 1) := by decide +kernel
theorem dX5_clean_31 : decode cX5_clean 31 = .ok (.iconst 1, 1) := by decide +kernel
theorem dX5_clean_32 : decode cX5_clean 32 = .ok (.invokevirtual 51, 3) := by decide +kernel
theorem dX5_clean_35 : decode cX5_clean 35 = .ok (.iinc 3 1, 3) := by decide +kernel
theorem dX5_clean_38 : decode cX5_clean 38 = .ok (.iinc 4 1, 3) := by decide +kernel
theorem dX5_clean_41 : decode cX5_clean 41 = .ok (.goto (-36), 3) := by decide +kernel
theorem dX5_clean_44 : decode cX5_clean 44 = .ok (.iload_n 3, 1) := by decide +kernel
theorem dX5_clean_45 : decode cX5_clean 45 = .ok (.ireturn, 1) := by decide +kernel
set_option maxRecDepth 20000 in
theorem ggX5_step_X5_in : GoodIn wsX5_step wsX5_in := goodIn_r _ [6] (by decide +kernel) (by decide +kernel)
set_option maxRecDepth 20000 in
theorem gX5_step_X5_in : GoodIn wsX5_step (va_wsS RX5 25 yX5_in wsX5_in) := goodIn_app (goodIn_of _ (by decide +kernel)) ggX5_step_X5_in
set_option maxRecDepth 20000 in
theorem ggX5_step_X5_begin : GoodIn wsX5_step wsX5_begin := goodIn_r _ [10, 11, 2, 35, 36, 37, 38, 39] (by decide +kernel) (by decide +kernel)
set_option maxRecDepth 20000 in
theorem gX5_step_X5_begin : GoodIn wsX5_step (wsV RX5 48 RX5 yX5_begin wsX5_begin) := goodIn_app (goodIn_of _ (by decide +kernel)) ggX5_step_X5_begin
set_option maxRecDepth 20000 in
theorem ggX5_step_X5_clean : GoodIn wsX5_step wsX5_clean := goodIn_r _ [15, 16, 17, 18, 5, 19, 2, 20, 21, 22, 23, 24, 25, 26, 27, 35, 36, 37, 38, 39] (by decide +kernel) (by decide +kernel)
set_option maxRecDepth 20000 in
theorem gX5_step_X5_clean : GoodIn wsX5_step (wsV RX5 89 RX5 yX5_clean wsX5_clean) := goodIn_app (goodIn_of _ (by decide +kernel)) ggX5_step_X5_clean
set_option maxRecDepth 20000 in
theorem ggX5_step_X5_keeps : GoodIn wsX5_step wsX5_keeps := goodIn_r _ [31, 32, 33, 34, 11, 35, 36, 37, 38, 39] (by decide +kernel) (by decide +kernel)
set_option maxRecDepth 20000 in
theorem gX5_step_X5_keeps : GoodIn wsX5_step (wsV RX5 55 RX5 yX5_keeps wsX5_keeps) := goodIn_app (goodIn_of _ (by decide +kernel)) ggX5_step_X5_keeps
theorem dX5_step_0 : decode cX5_step 0 = .ok (.iload_n 1, 1) := by decide +kernel
theorem dX5_step_1 : decode cX5_step 1 = .ok (.i2l, 1) := by decide +kernel
theorem dX5_step_2 : decode cX5_step 2 = .ok (.lconst 1, 1) := by decide +kernel
theorem dX5_step_3 : decode cX5_step 3 = .ok (.ldc2_w 87, 3) := by decide +kernel
theorem dX5_step_6 : decode cX5_step 6 = .ok (.invokestatic 25, 3) := by decide +kernel
theorem dX5_step_9 : decode cX5_step 9 = .ok (.ifCond .ne 5, 3) := by decide +kernel
theorem dX5_step_12 : decode cX5_step 12 = .ok (.iconst (-1), 1) := by decide +kernel
theorem dX5_step_13 : decode cX5_step 13 = .ok (.ireturn, 1) := by decide +kernel
theorem dX5_step_14 : decode cX5_step 14 = .ok (.aload_n 0, 1) := by decide +kernel
theorem dX5_step_15 : decode cX5_step 15 = .ok (.getfield 7, 3) := by decide +kernel
theorem dX5_step_18 : decode cX5_step 18 = .ok (.sipush 2120, 3) := by decide +kernel
theorem dX5_step_21 : decode cX5_step 21 = .ok (.iaload, 1) := by decide +kernel
theorem dX5_step_22 : decode cX5_step 22 = .ok (.ifCond .ne 6, 3) := by decide +kernel
theorem dX5_step_25 : decode cX5_step 25 = .ok (.bipush (-2), 2) := by decide +kernel
theorem dX5_step_27 : decode cX5_step 27 = .ok (.ireturn, 1) := by decide +kernel
theorem dX5_step_28 : decode cX5_step 28 = .ok (.aload_n 0, 1) := by decide +kernel
theorem dX5_step_29 : decode cX5_step 29 = .ok (.invokevirtual 48, 3) := by decide +kernel
theorem dX5_step_32 : decode cX5_step 32 = .ok (.iload_n 1, 1) := by decide +kernel
theorem dX5_step_33 : decode cX5_step 33 = .ok (.istore_n 2, 1) := by decide +kernel
theorem dX5_step_34 : decode cX5_step 34 = .ok (.iconst 0, 1) := by decide +kernel
theorem dX5_step_35 : decode cX5_step 35 = .ok (.istore_n 3, 1) := by decide +kernel
theorem dX5_step_36 : decode cX5_step 36 = .ok (.iconst 0, 1) := by decide +kernel
theorem dX5_step_37 : decode cX5_step 37 = .ok (.istore 4, 2) := by decide +kernel
theorem dX5_step_39 : decode cX5_step 39 = .ok (.iload 4, 2) := by decide +kernel
theorem dX5_step_41 : decode cX5_step 41 = .ok (.bipush 16, 2) := by decide +kernel
theorem dX5_step_43 : decode cX5_step 43 = .ok (.if_icmp .ge 68, 3) := by decide +kernel
theorem dX5_step_46 : decode cX5_step 46 = .ok (.iload_n 2, 1) := by decide +kernel
theorem dX5_step_47 : decode cX5_step 47 = .ok (.ifCond .le 64, 3) := by decide +kernel
theorem dX5_step_50 : decode cX5_step 50 = .ok (.aload_n 0, 1) := by decide +kernel
theorem dX5_step_51 : decode cX5_step 51 = .ok (.getfield 7, 3) := by decide +kernel
theorem dX5_step_54 : decode cX5_step 54 = .ok (.sipush 2088, 3) := by decide +kernel
theorem dX5_step_57 : decode cX5_step 57 = .ok (.iload 4, 2) := by decide +kernel
theorem dX5_step_59 : decode cX5_step 59 = .ok (.iadd, 1) := by decide +kernel
theorem dX5_step_60 : decode cX5_step 60 = .ok (.iaload, 1) := by decide +kernel
theorem dX5_step_61 : decode cX5_step 61 = .ok (.ifCond .ne 44, 3) := by decide +kernel
theorem dX5_step_64 : decode cX5_step 64 = .ok (.iload_n 3, 1) := by decide +kernel
theorem dX5_step_65 : decode cX5_step 65 = .ok (.aload_n 0, 1) := by decide +kernel
theorem dX5_step_66 : decode cX5_step 66 = .ok (.bipush 80, 2) := by decide +kernel
theorem dX5_step_68 : decode cX5_step 68 = .ok (.iload 4, 2) := by decide +kernel
theorem dX5_step_70 : decode cX5_step 70 = .ok (.imul, 1) := by decide +kernel
theorem dX5_step_71 : decode cX5_step 71 = .ok (.bipush 16, 2) := by decide +kernel
theorem dX5_step_73 : decode cX5_step 73 = .ok (.invokevirtual 89, 3) := by decide +kernel
theorem dX5_step_76 : decode cX5_step 76 = .ok (.iadd, 1) := by decide +kernel
theorem dX5_step_77 : decode cX5_step 77 = .ok (.istore_n 3, 1) := by decide +kernel
theorem dX5_step_78 : decode cX5_step 78 = .ok (.aload_n 0, 1) := by decide +kernel
theorem dX5_step_79 : decode cX5_step 79 = .ok (.getfield 7, 3) := by decide +kernel
theorem dX5_step_82 : decode cX5_step 82 = .ok (.sipush 2088, 3) := by decide +kernel
theorem dX5_step_85 : decode cX5_step 85 = .ok (.iload 4, 2) := by decide +kernel
theorem dX5_step_87 : decode cX5_step 87 = .ok (.iadd, 1) := by decide +kernel
theorem dX5_step_88 : decode cX5_step 88 = .ok (.iconst 1, 1) := by decide +kernel
theorem dX5_step_89 : decode cX5_step 89 = .ok (.iastore, 1) := by decide +kernel
theorem dX5_step_90 : decode cX5_step 90 = .ok (.aload_n 0, 1) := by decide +kernel
theorem dX5_step_91 : decode cX5_step 91 = .ok (.getfield 7, 3) := by decide +kernel
theorem dX5_step_94 : decode cX5_step 94 = .ok (.sipush 2125, 3) := by decide +kernel
theorem dX5_step_97 : decode cX5_step 97 = .ok (.dup2, 1) := by decide +kernel
theorem dX5_step_98 : decode cX5_step 98 = .ok (.iaload, 1) := by decide +kernel
theorem dX5_step_99 : decode cX5_step 99 = .ok (.iconst 1, 1) := by decide +kernel
theorem dX5_step_100 : decode cX5_step 100 = .ok (.iadd, 1) := by decide +kernel
theorem dX5_step_101 : decode cX5_step 101 = .ok (.iastore, 1) := by decide +kernel
theorem dX5_step_102 : decode cX5_step 102 = .ok (.iinc 2 (-1), 3) := by decide +kernel
theorem dX5_step_105 : decode cX5_step 105 = .ok (.iinc 4 1, 3) := by decide +kernel
theorem dX5_step_108 : decode cX5_step 108 = .ok (.goto (-69), 3) := by decide +kernel
theorem dX5_step_111 : decode cX5_step 111 = .ok (.aload_n 0, 1) := by decide +kernel
theorem dX5_step_112 : decode cX5_step 112 = .ok (.getfield 7, 3) := by decide +kernel
theorem dX5_step_115 : decode cX5_step 115 = .ok (.sipush 2121, 3) := by decide +kernel
theorem dX5_step_118 : decode cX5_step 118 = .ok (.dup2, 1) := by decide +kernel
theorem dX5_step_119 : decode cX5_step 119 = .ok (.iaload, 1) := by decide +kernel
theorem dX5_step_120 : decode cX5_step 120 = .ok (.iload_n 3, 1) := by decide +kernel
theorem dX5_step_121 : decode cX5_step 121 = .ok (.iadd, 1) := by decide +kernel
theorem dX5_step_122 : decode cX5_step 122 = .ok (.iastore, 1) := by decide +kernel
theorem dX5_step_123 : decode cX5_step 123 = .ok (.aload_n 0, 1) := by decide +kernel
theorem dX5_step_124 : decode cX5_step 124 = .ok (.iload_n 3, 1) := by decide +kernel
theorem dX5_step_125 : decode cX5_step 125 = .ok (.invokevirtual 55, 3) := by decide +kernel
theorem dX5_step_128 : decode cX5_step 128 = .ok (.ireturn, 1) := by decide +kernel
theorem dX5_areSeen_0 : decode cX5_areSeen 0 = .ok (.iconst 1, 1) := by decide +kernel
theorem dX5_areSeen_1 : decode cX5_areSeen 1 = .ok (.istore_n 1, 1) := by decide +kernel
theorem dX5_areSeen_2 : decode cX5_areSeen 2 = .ok (.iconst 0, 1) := by decide +kernel
theorem dX5_areSeen_3 : decode cX5_areSeen 3 = .ok (.istore_n 2, 1) := by decide +kernel
theorem dX5_areSeen_4 : decode cX5_areSeen 4 = .ok (.iload_n 2, 1) := by decide +kernel
theorem dX5_areSeen_5 : decode cX5_areSeen 5 = .ok (.bipush 16, 2) := by decide +kernel
theorem dX5_areSeen_7 : decode cX5_areSeen 7 = .ok (.if_icmp .ge 33, 3) := by decide +kernel
theorem dX5_areSeen_10 : decode cX5_areSeen 10 = .ok (.iload_n 1, 1) := by decide +kernel
theorem dX5_areSeen_11 : decode cX5_areSeen 11 = .ok (.ifCond .eq 21, 3) := by decide +kernel
theorem dX5_areSeen_14 : decode cX5_areSeen 14 = .ok (.aload_n 0, 1) := by decide +kernel
theorem dX5_areSeen_15 : decode cX5_areSeen 15 = .ok (.getfield 7, 3) := by decide +kernel
theorem dX5_areSeen_18 : decode cX5_areSeen 18 = .ok (.sipush 2088, 3) := by decide +kernel
theorem dX5_areSeen_21 : decode cX5_areSeen 21 = .ok (.iload_n 2, 1) := by decide +kernel
theorem dX5_areSeen_22 : decode cX5_areSeen 22 = .ok (.iadd, 1) := by decide +kernel
theorem dX5_areSeen_23 : decode cX5_areSeen 23 = .ok (.iaload, 1) := by decide +kernel
theorem dX5_areSeen_24 : decode cX5_areSeen 24 = .ok (.iconst 1, 1) := by decide +kernel
theorem dX5_areSeen_25 : decode cX5_areSeen 25 = .ok (.if_icmp .ne 7, 3) := by decide +kernel
theorem dX5_areSeen_28 : decode cX5_areSeen 28 = .ok (.iconst 1, 1) := by decide +kernel
theorem dX5_areSeen_29 : decode cX5_areSeen 29 = .ok (.goto 4, 3) := by decide +kernel
theorem dX5_areSeen_32 : decode cX5_areSeen 32 = .ok (.iconst 0, 1) := by decide +kernel
theorem dX5_areSeen_33 : decode cX5_areSeen 33 = .ok (.istore_n 1, 1) := by decide +kernel
theorem dX5_areSeen_34 : decode cX5_areSeen 34 = .ok (.iinc 2 1, 3) := by decide +kernel
theorem dX5_areSeen_37 : decode cX5_areSeen 37 = .ok (.goto (-33), 3) := by decide +kernel
theorem dX5_areSeen_40 : decode cX5_areSeen 40 = .ok (.iload_n 1, 1) := by decide +kernel
theorem dX5_areSeen_41 : decode cX5_areSeen 41 = .ok (.ireturn, 1) := by decide +kernel
set_option maxRecDepth 20000 in
theorem ggX5_end_X5_areSeen : GoodIn wsX5_end wsX5_areSeen := goodIn_r _ [6, 1, 35, 36, 37, 38, 39] (by decide +kernel) (by decide +kernel)
set_option maxRecDepth 20000 in
theorem gX5_end_X5_areSeen : GoodIn wsX5_end (wsV RX5 92 RX5 yX5_areSeen wsX5_areSeen) := goodIn_app (goodIn_of _ (by decide +kernel)) ggX5_end_X5_areSeen
set_option maxRecDepth 20000 in
theorem ggX5_end_X5_begin : GoodIn wsX5_end wsX5_begin := goodIn_r _ [10, 11, 1, 35, 36, 37, 38, 39] (by decide +kernel) (by decide +kernel)
set_option maxRecDepth 20000 in
theorem gX5_end_X5_begin : GoodIn wsX5_end (wsV RX5 48 RX5 yX5_begin wsX5_begin) := goodIn_app (goodIn_of _ (by decide +kernel)) ggX5_end_X5_begin
set_option maxRecDepth 20000 in
theorem ggX5_end_X5_clean : GoodIn wsX5_end wsX5_clean := goodIn_r _ [15, 16, 17, 18, 5, 19, 1, 20, 21, 22, 23, 24, 25, 26, 27, 35, 36, 37, 38, 39] (by decide +kernel) (by decide +kernel)
set_option maxRecDepth 20000 in
theorem gX5_end_X5_clean : GoodIn wsX5_end (wsV RX5 89 RX5 yX5_clean wsX5_clean) := goodIn_app (goodIn_of _ (by decide +kernel)) ggX5_end_X5_clean
set_option maxRecDepth 20000 in
theorem ggX5_end_X5_keeps : GoodIn wsX5_end wsX5_keeps := goodIn_r _ [31, 32, 33, 34, 11, 35, 36, 37, 38, 39] (by decide +kernel) (by decide +kernel)
set_option maxRecDepth 20000 in
theorem gX5_end_X5_keeps : GoodIn wsX5_end (wsV RX5 55 RX5 yX5_keeps wsX5_keeps) := goodIn_app (goodIn_of _ (by decide +kernel)) ggX5_end_X5_keeps
theorem dX5_end_0 : decode cX5_end 0 = .ok (.aload_n 0, 1) := by decide +kernel
theorem dX5_end_1 : decode cX5_end 1 = .ok (.getfield 7, 3) := by decide +kernel
theorem dX5_end_4 : decode cX5_end 4 = .ok (.sipush 2120, 3) := by decide +kernel
theorem dX5_end_7 : decode cX5_end 7 = .ok (.iaload, 1) := by decide +kernel
theorem dX5_end_8 : decode cX5_end 8 = .ok (.ifCond .eq 10, 3) := by decide +kernel
theorem dX5_end_11 : decode cX5_end 11 = .ok (.aload_n 0, 1) := by decide +kernel
theorem dX5_end_12 : decode cX5_end 12 = .ok (.invokevirtual 92, 3) := by decide +kernel
theorem dX5_end_15 : decode cX5_end 15 = .ok (.ifCond .ne 6, 3) := by decide +kernel
theorem dX5_end_18 : decode cX5_end 18 = .ok (.bipush (-2), 2) := by decide +kernel
theorem dX5_end_20 : decode cX5_end 20 = .ok (.ireturn, 1) := by decide +kernel
theorem dX5_end_21 : decode cX5_end 21 = .ok (.aload_n 0, 1) := by decide +kernel
theorem dX5_end_22 : decode cX5_end 22 = .ok (.invokevirtual 48, 3) := by decide +kernel
theorem dX5_end_25 : decode cX5_end 25 = .ok (.iconst 0, 1) := by decide +kernel
theorem dX5_end_26 : decode cX5_end 26 = .ok (.istore_n 1, 1) := by decide +kernel
theorem dX5_end_27 : decode cX5_end 27 = .ok (.iload_n 1, 1) := by decide +kernel
theorem dX5_end_28 : decode cX5_end 28 = .ok (.bipush 16, 2) := by decide +kernel
theorem dX5_end_30 : decode cX5_end 30 = .ok (.if_icmp .ge 56, 3) := by decide +kernel
theorem dX5_end_33 : decode cX5_end 33 = .ok (.aload_n 0, 1) := by decide +kernel
theorem dX5_end_34 : decode cX5_end 34 = .ok (.getfield 7, 3) := by decide +kernel
theorem dX5_end_37 : decode cX5_end 37 = .ok (.sipush 2104, 3) := by decide +kernel
theorem dX5_end_40 : decode cX5_end 40 = .ok (.iload_n 1, 1) := by decide +kernel
theorem dX5_end_41 : decode cX5_end 41 = .ok (.iadd, 1) := by decide +kernel
theorem dX5_end_42 : decode cX5_end 42 = .ok (.iaload, 1) := by decide +kernel
theorem dX5_end_43 : decode cX5_end 43 = .ok (.iconst 1, 1) := by decide +kernel
theorem dX5_end_44 : decode cX5_end 44 = .ok (.if_icmp .ne 36, 3) := by decide +kernel
theorem dX5_end_47 : decode cX5_end 47 = .ok (.aload_n 0, 1) := by decide +kernel
theorem dX5_end_48 : decode cX5_end 48 = .ok (.getfield 7, 3) := by decide +kernel
theorem dX5_end_51 : decode cX5_end 51 = .ok (.sipush 2122, 3) := by decide +kernel
theorem dX5_end_54 : decode cX5_end 54 = .ok (.dup2, 1) := by decide +kernel
theorem dX5_end_55 : decode cX5_end 55 = .ok (.iaload, 1) := by decide +kernel
theorem dX5_end_56 : decode cX5_end 56 = .ok (.aload_n 0, 1) := by decide +kernel
theorem dX5_end_57 : decode cX5_end 57 = .ok (.bipush 80, 2) := by decide +kernel
theorem dX5_end_59 : decode cX5_end 59 = .ok (.iload_n 1, 1) := by decide +kernel
theorem dX5_end_60 : decode cX5_end 60 = .ok (.imul, 1) := by decide +kernel
theorem dX5_end_61 : decode cX5_end 61 = .ok (.bipush 16, 2) := by decide +kernel
theorem dX5_end_63 : decode cX5_end 63 = .ok (.invokevirtual 89, 3) := by decide +kernel
theorem dX5_end_66 : decode cX5_end 66 = .ok (.iadd, 1) := by decide +kernel
theorem dX5_end_67 : decode cX5_end 67 = .ok (.iastore, 1) := by decide +kernel
theorem dX5_end_68 : decode cX5_end 68 = .ok (.aload_n 0, 1) := by decide +kernel
theorem dX5_end_69 : decode cX5_end 69 = .ok (.getfield 7, 3) := by decide +kernel
theorem dX5_end_72 : decode cX5_end 72 = .ok (.sipush 2126, 3) := by decide +kernel
theorem dX5_end_75 : decode cX5_end 75 = .ok (.dup2, 1) := by decide +kernel
theorem dX5_end_76 : decode cX5_end 76 = .ok (.iaload, 1) := by decide +kernel
theorem dX5_end_77 : decode cX5_end 77 = .ok (.iconst 1, 1) := by decide +kernel
theorem dX5_end_78 : decode cX5_end 78 = .ok (.iadd, 1) := by decide +kernel
theorem dX5_end_79 : decode cX5_end 79 = .ok (.iastore, 1) := by decide +kernel
theorem dX5_end_80 : decode cX5_end 80 = .ok (.iinc 1 1, 3) := by decide +kernel
theorem dX5_end_83 : decode cX5_end 83 = .ok (.goto (-56), 3) := by decide +kernel
theorem dX5_end_86 : decode cX5_end 86 = .ok (.aload_n 0, 1) := by decide +kernel
theorem dX5_end_87 : decode cX5_end 87 = .ok (.getfield 7, 3) := by decide +kernel
theorem dX5_end_90 : decode cX5_end 90 = .ok (.sipush 2123, 3) := by decide +kernel
theorem dX5_end_93 : decode cX5_end 93 = .ok (.dup2, 1) := by decide +kernel
theorem dX5_end_94 : decode cX5_end 94 = .ok (.iaload, 1) := by decide +kernel
theorem dX5_end_95 : decode cX5_end 95 = .ok (.aload_n 0, 1) := by decide +kernel
theorem dX5_end_96 : decode cX5_end 96 = .ok (.sipush 1280, 3) := by decide +kernel
theorem dX5_end_99 : decode cX5_end 99 = .ok (.bipush 8, 2) := by decide +kernel
theorem dX5_end_101 : decode cX5_end 101 = .ok (.invokevirtual 89, 3) := by decide +kernel
theorem dX5_end_104 : decode cX5_end 104 = .ok (.iadd, 1) := by decide +kernel
theorem dX5_end_105 : decode cX5_end 105 = .ok (.iastore, 1) := by decide +kernel
theorem dX5_end_106 : decode cX5_end 106 = .ok (.iconst 0, 1) := by decide +kernel
theorem dX5_end_107 : decode cX5_end 107 = .ok (.istore_n 1, 1) := by decide +kernel
theorem dX5_end_108 : decode cX5_end 108 = .ok (.iconst 0, 1) := by decide +kernel
theorem dX5_end_109 : decode cX5_end 109 = .ok (.istore_n 2, 1) := by decide +kernel
theorem dX5_end_110 : decode cX5_end 110 = .ok (.iload_n 2, 1) := by decide +kernel
theorem dX5_end_111 : decode cX5_end 111 = .ok (.sipush 256, 3) := by decide +kernel
theorem dX5_end_114 : decode cX5_end 114 = .ok (.if_icmp .ge 48, 3) := by decide +kernel
theorem dX5_end_117 : decode cX5_end 117 = .ok (.aload_n 0, 1) := by decide +kernel
theorem dX5_end_118 : decode cX5_end 118 = .ok (.getfield 7, 3) := by decide +kernel
theorem dX5_end_121 : decode cX5_end 121 = .ok (.sipush 1576, 3) := by decide +kernel
theorem dX5_end_124 : decode cX5_end 124 = .ok (.iload_n 2, 1) := by decide +kernel
theorem dX5_end_125 : decode cX5_end 125 = .ok (.iadd, 1) := by decide +kernel
theorem dX5_end_126 : decode cX5_end 126 = .ok (.iaload, 1) := by decide +kernel
theorem dX5_end_127 : decode cX5_end 127 = .ok (.iconst 1, 1) := by decide +kernel
theorem dX5_end_128 : decode cX5_end 128 = .ok (.if_icmp .ne 28, 3) := by decide +kernel
theorem dX5_end_131 : decode cX5_end 131 = .ok (.aload_n 0, 1) := by decide +kernel
theorem dX5_end_132 : decode cX5_end 132 = .ok (.getfield 7, 3) := by decide +kernel
theorem dX5_end_135 : decode cX5_end 135 = .ok (.sipush 1320, 3) := by decide +kernel
theorem dX5_end_138 : decode cX5_end 138 = .ok (.iload_n 2, 1) := by decide +kernel
theorem dX5_end_139 : decode cX5_end 139 = .ok (.iadd, 1) := by decide +kernel
theorem dX5_end_140 : decode cX5_end 140 = .ok (.iconst 0, 1) := by decide +kernel
theorem dX5_end_141 : decode cX5_end 141 = .ok (.iastore, 1) := by decide +kernel
theorem dX5_end_142 : decode cX5_end 142 = .ok (.aload_n 0, 1) := by decide +kernel
theorem dX5_end_143 : decode cX5_end 143 = .ok (.getfield 7, 3) := by decide +kernel
theorem dX5_end_146 : decode cX5_end 146 = .ok (.sipush 1576, 3) := by decide +kernel
theorem dX5_end_149 : decode cX5_end 149 = .ok (.iload_n 2, 1) := by decide +kernel
theorem dX5_end_150 : decode cX5_end 150 = .ok (.iadd, 1) := by decide +kernel
theorem dX5_end_151 : decode cX5_end 151 = .ok (.iconst 0, 1) := by decide +kernel
theorem dX5_end_152 : decode cX5_end 152 = .ok (.iastore, 1) := by decide +kernel
theorem dX5_end_153 : decode cX5_end 153 = .ok (.iinc 1 1, 3) := by decide +kernel
theorem dX5_end_156 : decode cX5_end 156 = .ok (.iinc 2 1, 3) := by decide +kernel
theorem dX5_end_159 : decode cX5_end 159 = .ok (.goto (-49), 3) := by decide +kernel
theorem dX5_end_162 : decode cX5_end 162 = .ok (.iconst 0, 1) := by decide +kernel
theorem dX5_end_163 : decode cX5_end 163 = .ok (.istore_n 2, 1) := by decide +kernel
theorem dX5_end_164 : decode cX5_end 164 = .ok (.iload_n 2, 1) := by decide +kernel
theorem dX5_end_165 : decode cX5_end 165 = .ok (.bipush 16, 2) := by decide +kernel
theorem dX5_end_167 : decode cX5_end 167 = .ok (.if_icmp .ge 31, 3) := by decide +kernel
theorem dX5_end_170 : decode cX5_end 170 = .ok (.aload_n 0, 1) := by decide +kernel
theorem dX5_end_171 : decode cX5_end 171 = .ok (.getfield 7, 3) := by decide +kernel
theorem dX5_end_174 : decode cX5_end 174 = .ok (.sipush 2088, 3) := by decide +kernel
theorem dX5_end_177 : decode cX5_end 177 = .ok (.iload_n 2, 1) := by decide +kernel
theorem dX5_end_178 : decode cX5_end 178 = .ok (.iadd, 1) := by decide +kernel
theorem dX5_end_179 : decode cX5_end 179 = .ok (.iconst 0, 1) := by decide +kernel
theorem dX5_end_180 : decode cX5_end 180 = .ok (.iastore, 1) := by decide +kernel
theorem dX5_end_181 : decode cX5_end 181 = .ok (.aload_n 0, 1) := by decide +kernel
theorem dX5_end_182 : decode cX5_end 182 = .ok (.getfield 7, 3) := by decide +kernel
theorem dX5_end_185 : decode cX5_end 185 = .ok (.sipush 2104, 3) := by decide +kernel
theorem dX5_end_188 : decode cX5_end 188 = .ok (.iload_n 2, 1) := by decide +kernel
theorem dX5_end_189 : decode cX5_end 189 = .ok (.iadd, 1) := by decide +kernel
theorem dX5_end_190 : decode cX5_end 190 = .ok (.iconst 0, 1) := by decide +kernel
theorem dX5_end_191 : decode cX5_end 191 = .ok (.iastore, 1) := by decide +kernel
theorem dX5_end_192 : decode cX5_end 192 = .ok (.iinc 2 1, 3) := by decide +kernel
theorem dX5_end_195 : decode cX5_end 195 = .ok (.goto (-31), 3) := by decide +kernel
theorem dX5_end_198 : decode cX5_end 198 = .ok (.aload_n 0, 1) := by decide +kernel
theorem dX5_end_199 : decode cX5_end 199 = .ok (.getfield 7, 3) := by decide +kernel
theorem dX5_end_202 : decode cX5_end 202 = .ok (.sipush 2120, 3) := by decide +kernel
theorem dX5_end_205 : decode cX5_end 205 = .ok (.iconst 0, 1) := by decide +kernel
theorem dX5_end_206 : decode cX5_end 206 = .ok (.iastore, 1) := by decide +kernel
theorem dX5_end_207 : decode cX5_end 207 = .ok (.aload_n 0, 1) := by decide +kernel
theorem dX5_end_208 : decode cX5_end 208 = .ok (.getfield 7, 3) := by decide +kernel
theorem dX5_end_211 : decode cX5_end 211 = .ok (.sipush 2127, 3) := by decide +kernel
theorem dX5_end_214 : decode cX5_end 214 = .ok (.dup2, 1) := by decide +kernel
theorem dX5_end_215 : decode cX5_end 215 = .ok (.iaload, 1) := by decide +kernel
theorem dX5_end_216 : decode cX5_end 216 = .ok (.iconst 1, 1) := by decide +kernel
theorem dX5_end_217 : decode cX5_end 217 = .ok (.iadd, 1) := by decide +kernel
theorem dX5_end_218 : decode cX5_end 218 = .ok (.iastore, 1) := by decide +kernel
theorem dX5_end_219 : decode cX5_end 219 = .ok (.aload_n 0, 1) := by decide +kernel
theorem dX5_end_220 : decode cX5_end 220 = .ok (.iload_n 1, 1) := by decide +kernel
theorem dX5_end_221 : decode cX5_end 221 = .ok (.invokevirtual 55, 3) := by decide +kernel
theorem dX5_end_224 : decode cX5_end 224 = .ok (.ireturn, 1) := by decide +kernel
set_option maxRecDepth 20000 in
theorem ggX5_told_X5_in : GoodIn wsX5_told wsX5_in := goodIn_r _ [9] (by decide +kernel) (by decide +kernel)
set_option maxRecDepth 20000 in
theorem gX5_told_X5_in : GoodIn wsX5_told (va_wsS RX5 25 yX5_in wsX5_in) := goodIn_app (goodIn_of _ (by decide +kernel)) ggX5_told_X5_in
set_option maxRecDepth 20000 in
theorem ggX5_told_X5_reg : GoodIn wsX5_told wsX5_reg := goodIn_r _ [12] (by decide +kernel) (by decide +kernel)
set_option maxRecDepth 20000 in
theorem gX5_told_X5_reg : GoodIn wsX5_told (va_wsS RX5 38 yX5_reg wsX5_reg) := goodIn_app (goodIn_of _ (by decide +kernel)) ggX5_told_X5_reg
set_option maxRecDepth 20000 in
theorem ggX5_told_X5_isStale : GoodIn wsX5_told wsX5_isStale := goodIn_r _ [16, 5, 17, 18, 19, 20, 21] (by decide +kernel) (by decide +kernel)
set_option maxRecDepth 20000 in
theorem gX5_told_X5_isStale : GoodIn wsX5_told (wsV RX5 69 RX5 yX5_isStale wsX5_isStale) := goodIn_app (goodIn_of _ (by decide +kernel)) ggX5_told_X5_isStale
theorem dX5_told_0 : decode cX5_told 0 = .ok (.iload_n 1, 1) := by decide +kernel
theorem dX5_told_1 : decode cX5_told 1 = .ok (.i2l, 1) := by decide +kernel
theorem dX5_told_2 : decode cX5_told 2 = .ok (.lconst 0, 1) := by decide +kernel
theorem dX5_told_3 : decode cX5_told 3 = .ok (.lconst 1, 1) := by decide +kernel
theorem dX5_told_4 : decode cX5_told 4 = .ok (.invokestatic 25, 3) := by decide +kernel
theorem dX5_told_7 : decode cX5_told 7 = .ok (.ifCond .eq 37, 3) := by decide +kernel
theorem dX5_told_10 : decode cX5_told 10 = .ok (.iload_n 2, 1) := by decide +kernel
theorem dX5_told_11 : decode cX5_told 11 = .ok (.i2l, 1) := by decide +kernel
theorem dX5_told_12 : decode cX5_told 12 = .ok (.lconst 0, 1) := by decide +kernel
theorem dX5_told_13 : decode cX5_told 13 = .ok (.iload_n 1, 1) := by decide +kernel
theorem dX5_told_14 : decode cX5_told 14 = .ok (.ifCond .ne 9, 3) := by decide +kernel
theorem dX5_told_17 : decode cX5_told 17 = .ok (.ldc2_w 23, 3) := by decide +kernel
theorem dX5_told_20 : decode cX5_told 20 = .ok (.goto 6, 3) := by decide +kernel
theorem dX5_told_23 : decode cX5_told 23 = .ok (.ldc2_w 96, 3) := by decide +kernel
theorem dX5_told_26 : decode cX5_told 26 = .ok (.invokestatic 25, 3) := by decide +kernel
theorem dX5_told_29 : decode cX5_told 29 = .ok (.ifCond .eq 15, 3) := by decide +kernel
theorem dX5_told_32 : decode cX5_told 32 = .ok (.iload_n 3, 1) := by decide +kernel
theorem dX5_told_33 : decode cX5_told 33 = .ok (.i2l, 1) := by decide +kernel
theorem dX5_told_34 : decode cX5_told 34 = .ok (.lconst 0, 1) := by decide +kernel
theorem dX5_told_35 : decode cX5_told 35 = .ok (.ldc2_w 98, 3) := by decide +kernel
theorem dX5_told_38 : decode cX5_told 38 = .ok (.invokestatic 25, 3) := by decide +kernel
theorem dX5_told_41 : decode cX5_told 41 = .ok (.ifCond .ne 6, 3) := by decide +kernel
theorem dX5_told_44 : decode cX5_told 44 = .ok (.ldc 65, 2) := by decide +kernel
theorem dX5_told_46 : decode cX5_told 46 = .ok (.ireturn, 1) := by decide +kernel
theorem dX5_told_47 : decode cX5_told 47 = .ok (.iload_n 1, 1) := by decide +kernel
theorem dX5_told_48 : decode cX5_told 48 = .ok (.ifCond .ne 10, 3) := by decide +kernel
theorem dX5_told_51 : decode cX5_told 51 = .ok (.iload_n 2, 1) := by decide +kernel
theorem dX5_told_52 : decode cX5_told 52 = .ok (.invokestatic 38, 3) := by decide +kernel
theorem dX5_told_55 : decode cX5_told 55 = .ok (.goto 6, 3) := by decide +kernel
theorem dX5_told_58 : decode cX5_told 58 = .ok (.iconst 5, 1) := by decide +kernel
theorem dX5_told_59 : decode cX5_told 59 = .ok (.iload_n 2, 1) := by decide +kernel
theorem dX5_told_60 : decode cX5_told 60 = .ok (.imul, 1) := by decide +kernel
theorem dX5_told_61 : decode cX5_told 61 = .ok (.istore 4, 2) := by decide +kernel
theorem dX5_told_63 : decode cX5_told 63 = .ok (.iload_n 3, 1) := by decide +kernel
theorem dX5_told_64 : decode cX5_told 64 = .ok (.iconst 5, 1) := by decide +kernel
theorem dX5_told_65 : decode cX5_told 65 = .ok (.if_icmp .ge 13, 3) := by decide +kernel
theorem dX5_told_68 : decode cX5_told 68 = .ok (.aload_n 0, 1) := by decide +kernel
theorem dX5_told_69 : decode cX5_told 69 = .ok (.getfield 7, 3) := by decide +kernel
theorem dX5_told_72 : decode cX5_told 72 = .ok (.iload 4, 2) := by decide +kernel
theorem dX5_told_74 : decode cX5_told 74 = .ok (.iload_n 3, 1) := by decide +kernel
theorem dX5_told_75 : decode cX5_told 75 = .ok (.iadd, 1) := by decide +kernel
theorem dX5_told_76 : decode cX5_told 76 = .ok (.iaload, 1) := by decide +kernel
theorem dX5_told_77 : decode cX5_told 77 = .ok (.ireturn, 1) := by decide +kernel
theorem dX5_told_78 : decode cX5_told 78 = .ok (.iload_n 3, 1) := by decide +kernel
theorem dX5_told_79 : decode cX5_told 79 = .ok (.bipush 6, 2) := by decide +kernel
theorem dX5_told_81 : decode cX5_told 81 = .ok (.if_icmp .ne 20, 3) := by decide +kernel
theorem dX5_told_84 : decode cX5_told 84 = .ok (.aload_n 0, 1) := by decide +kernel
theorem dX5_told_85 : decode cX5_told 85 = .ok (.iload 4, 2) := by decide +kernel
theorem dX5_told_87 : decode cX5_told 87 = .ok (.invokevirtual 69, 3) := by decide +kernel
theorem dX5_told_90 : decode cX5_told 90 = .ok (.ifCond .eq 7, 3) := by decide +kernel
theorem dX5_told_93 : decode cX5_told 93 = .ok (.iconst 1, 1) := by decide +kernel
theorem dX5_told_94 : decode cX5_told 94 = .ok (.goto 25, 3) := by decide +kernel
theorem dX5_told_97 : decode cX5_told 97 = .ok (.iconst 0, 1) := by decide +kernel
theorem dX5_told_98 : decode cX5_told 98 = .ok (.goto 21, 3) := by decide +kernel
theorem dX5_told_101 : decode cX5_told 101 = .ok (.iload_n 1, 1) := by decide +kernel
theorem dX5_told_102 : decode cX5_told 102 = .ok (.ifCond .ne 7, 3) := by decide +kernel
theorem dX5_told_105 : decode cX5_told 105 = .ok (.iconst 0, 1) := by decide +kernel
theorem dX5_told_106 : decode cX5_told 106 = .ok (.goto 13, 3) := by decide +kernel
theorem dX5_told_109 : decode cX5_told 109 = .ok (.aload_n 0, 1) := by decide +kernel
theorem dX5_told_110 : decode cX5_told 110 = .ok (.getfield 7, 3) := by decide +kernel
theorem dX5_told_113 : decode cX5_told 113 = .ok (.sipush 1320, 3) := by decide +kernel
theorem dX5_told_116 : decode cX5_told 116 = .ok (.iload_n 2, 1) := by decide +kernel
theorem dX5_told_117 : decode cX5_told 117 = .ok (.iadd, 1) := by decide +kernel
theorem dX5_told_118 : decode cX5_told 118 = .ok (.iaload, 1) := by decide +kernel
theorem dX5_told_119 : decode cX5_told 119 = .ok (.ireturn, 1) := by decide +kernel
set_option maxRecDepth 20000 in
theorem ggX5_page_X5_in : GoodIn wsX5_page wsX5_in := goodIn_r _ [7] (by decide +kernel) (by decide +kernel)
set_option maxRecDepth 20000 in
theorem gX5_page_X5_in : GoodIn wsX5_page (va_wsS RX5 25 yX5_in wsX5_in) := goodIn_app (goodIn_of _ (by decide +kernel)) ggX5_page_X5_in
theorem dX5_page_0 : decode cX5_page 0 = .ok (.iload_n 1, 1) := by decide +kernel
theorem dX5_page_1 : decode cX5_page 1 = .ok (.i2l, 1) := by decide +kernel
theorem dX5_page_2 : decode cX5_page 2 = .ok (.lconst 0, 1) := by decide +kernel
theorem dX5_page_3 : decode cX5_page 3 = .ok (.ldc2_w 100, 3) := by decide +kernel
theorem dX5_page_6 : decode cX5_page 6 = .ok (.invokestatic 25, 3) := by decide +kernel
theorem dX5_page_9 : decode cX5_page 9 = .ok (.ifCond .eq 15, 3) := by decide +kernel
theorem dX5_page_12 : decode cX5_page 12 = .ok (.iload_n 2, 1) := by decide +kernel
theorem dX5_page_13 : decode cX5_page 13 = .ok (.i2l, 1) := by decide +kernel
theorem dX5_page_14 : decode cX5_page 14 = .ok (.lconst 0, 1) := by decide +kernel
theorem dX5_page_15 : decode cX5_page 15 = .ok (.ldc2_w 102, 3) := by decide +kernel
theorem dX5_page_18 : decode cX5_page 18 = .ok (.invokestatic 25, 3) := by decide +kernel
theorem dX5_page_21 : decode cX5_page 21 = .ok (.ifCond .ne 5, 3) := by decide +kernel
theorem dX5_page_24 : decode cX5_page 24 = .ok (.iconst (-1), 1) := by decide +kernel
theorem dX5_page_25 : decode cX5_page 25 = .ok (.ireturn, 1) := by decide +kernel
theorem dX5_page_26 : decode cX5_page 26 = .ok (.iload_n 2, 1) := by decide +kernel
theorem dX5_page_27 : decode cX5_page 27 = .ok (.iconst 2, 1) := by decide +kernel
theorem dX5_page_28 : decode cX5_page 28 = .ok (.if_icmp .ge 24, 3) := by decide +kernel
theorem dX5_page_31 : decode cX5_page 31 = .ok (.aload_n 0, 1) := by decide +kernel
theorem dX5_page_32 : decode cX5_page 32 = .ok (.getfield 7, 3) := by decide +kernel
theorem dX5_page_35 : decode cX5_page 35 = .ok (.iload_n 2, 1) := by decide +kernel
theorem dX5_page_36 : decode cX5_page 36 = .ok (.ifCond .ne 9, 3) := by decide +kernel
theorem dX5_page_39 : decode cX5_page 39 = .ok (.sipush 2088, 3) := by decide +kernel
theorem dX5_page_42 : decode cX5_page 42 = .ok (.goto 6, 3) := by decide +kernel
theorem dX5_page_45 : decode cX5_page 45 = .ok (.sipush 2104, 3) := by decide +kernel
theorem dX5_page_48 : decode cX5_page 48 = .ok (.iload_n 1, 1) := by decide +kernel
theorem dX5_page_49 : decode cX5_page 49 = .ok (.iadd, 1) := by decide +kernel
theorem dX5_page_50 : decode cX5_page 50 = .ok (.iaload, 1) := by decide +kernel
theorem dX5_page_51 : decode cX5_page 51 = .ok (.ireturn, 1) := by decide +kernel
theorem dX5_page_52 : decode cX5_page 52 = .ok (.iconst 0, 1) := by decide +kernel
theorem dX5_page_53 : decode cX5_page 53 = .ok (.istore_n 3, 1) := by decide +kernel
theorem dX5_page_54 : decode cX5_page 54 = .ok (.bipush 16, 2) := by decide +kernel
theorem dX5_page_56 : decode cX5_page 56 = .ok (.iload_n 1, 1) := by decide +kernel
theorem dX5_page_57 : decode cX5_page 57 = .ok (.imul, 1) := by decide +kernel
theorem dX5_page_58 : decode cX5_page 58 = .ok (.istore 4, 2) := by decide +kernel
theorem dX5_page_60 : decode cX5_page 60 = .ok (.iload 4, 2) := by decide +kernel
theorem dX5_page_62 : decode cX5_page 62 = .ok (.bipush 16, 2) := by decide +kernel
theorem dX5_page_64 : decode cX5_page 64 = .ok (.iload_n 1, 1) := by decide +kernel
theorem dX5_page_65 : decode cX5_page 65 = .ok (.imul, 1) := by decide +kernel
theorem dX5_page_66 : decode cX5_page 66 = .ok (.bipush 16, 2) := by decide +kernel
theorem dX5_page_68 : decode cX5_page 68 = .ok (.iadd, 1) := by decide +kernel
theorem dX5_page_69 : decode cX5_page 69 = .ok (.if_icmp .ge 51, 3) := by decide +kernel
theorem dX5_page_72 : decode cX5_page 72 = .ok (.iload_n 3, 1) := by decide +kernel
theorem dX5_page_73 : decode cX5_page 73 = .ok (.iload_n 2, 1) := by decide +kernel
theorem dX5_page_74 : decode cX5_page 74 = .ok (.iconst 2, 1) := by decide +kernel
theorem dX5_page_75 : decode cX5_page 75 = .ok (.if_icmp .ne 15, 3) := by decide +kernel
theorem dX5_page_78 : decode cX5_page 78 = .ok (.aload_n 0, 1) := by decide +kernel
theorem dX5_page_79 : decode cX5_page 79 = .ok (.getfield 7, 3) := by decide +kernel
theorem dX5_page_82 : decode cX5_page 82 = .ok (.iconst 5, 1) := by decide +kernel
theorem dX5_page_83 : decode cX5_page 83 = .ok (.iload 4, 2) := by decide +kernel
theorem dX5_page_85 : decode cX5_page 85 = .ok (.imul, 1) := by decide +kernel
theorem dX5_page_86 : decode cX5_page 86 = .ok (.iaload, 1) := by decide +kernel
theorem dX5_page_87 : decode cX5_page 87 = .ok (.goto 25, 3) := by decide +kernel
theorem dX5_page_90 : decode cX5_page 90 = .ok (.aload_n 0, 1) := by decide +kernel
theorem dX5_page_91 : decode cX5_page 91 = .ok (.getfield 7, 3) := by decide +kernel
theorem dX5_page_94 : decode cX5_page 94 = .ok (.sipush 1320, 3) := by decide +kernel
theorem dX5_page_97 : decode cX5_page 97 = .ok (.iload 4, 2) := by decide +kernel
theorem dX5_page_99 : decode cX5_page 99 = .ok (.iadd, 1) := by decide +kernel
theorem dX5_page_100 : decode cX5_page 100 = .ok (.iaload, 1) := by decide +kernel
theorem dX5_page_101 : decode cX5_page 101 = .ok (.iload_n 2, 1) := by decide +kernel
theorem dX5_page_102 : decode cX5_page 102 = .ok (.iconst 2, 1) := by decide +kernel
theorem dX5_page_103 : decode cX5_page 103 = .ok (.isub, 1) := by decide +kernel
theorem dX5_page_104 : decode cX5_page 104 = .ok (.if_icmp .ne 7, 3) := by decide +kernel
theorem dX5_page_107 : decode cX5_page 107 = .ok (.iconst 1, 1) := by decide +kernel
theorem dX5_page_108 : decode cX5_page 108 = .ok (.goto 4, 3) := by decide +kernel
theorem dX5_page_111 : decode cX5_page 111 = .ok (.iconst 0, 1) := by decide +kernel
theorem dX5_page_112 : decode cX5_page 112 = .ok (.iadd, 1) := by decide +kernel
theorem dX5_page_113 : decode cX5_page 113 = .ok (.istore_n 3, 1) := by decide +kernel
theorem dX5_page_114 : decode cX5_page 114 = .ok (.iinc 4 1, 3) := by decide +kernel
theorem dX5_page_117 : decode cX5_page 117 = .ok (.goto (-57), 3) := by decide +kernel
theorem dX5_page_120 : decode cX5_page 120 = .ok (.iload_n 3, 1) := by decide +kernel
theorem dX5_page_121 : decode cX5_page 121 = .ok (.ireturn, 1) := by decide +kernel
set_option maxRecDepth 20000 in
theorem ggX5_range_X5_in : GoodIn wsX5_range wsX5_in := goodIn_r _ [6] (by decide +kernel) (by decide +kernel)
set_option maxRecDepth 20000 in
theorem gX5_range_X5_in : GoodIn wsX5_range (va_wsS RX5 25 yX5_in wsX5_in) := goodIn_app (goodIn_of _ (by decide +kernel)) ggX5_range_X5_in
set_option maxRecDepth 20000 in
theorem ggX5_range_X5_rangeSize : GoodIn wsX5_range wsX5_rangeSize := goodIn_r _ [10, 2, 11, 12, 13, 14, 15] (by decide +kernel) (by decide +kernel)
set_option maxRecDepth 20000 in
theorem gX5_range_X5_rangeSize : GoodIn wsX5_range (wsV RX5 58 RX5 yX5_rangeSize wsX5_rangeSize) := goodIn_app (goodIn_of _ (by decide +kernel)) ggX5_range_X5_rangeSize
theorem dX5_range_0 : decode cX5_range 0 = .ok (.iload_n 1, 1) := by decide +kernel
theorem dX5_range_1 : decode cX5_range 1 = .ok (.i2l, 1) := by decide +kernel
theorem dX5_range_2 : decode cX5_range 2 = .ok (.lconst 0, 1) := by decide +kernel
theorem dX5_range_3 : decode cX5_range 3 = .ok (.ldc2_w 96, 3) := by decide +kernel
theorem dX5_range_6 : decode cX5_range 6 = .ok (.invokestatic 25, 3) := by decide +kernel
theorem dX5_range_9 : decode cX5_range 9 = .ok (.ifCond .eq 13, 3) := by decide +kernel
theorem dX5_range_12 : decode cX5_range 12 = .ok (.iload_n 2, 1) := by decide +kernel
theorem dX5_range_13 : decode cX5_range 13 = .ok (.i2l, 1) := by decide +kernel
theorem dX5_range_14 : decode cX5_range 14 = .ok (.lconst 0, 1) := by decide +kernel
theorem dX5_range_15 : decode cX5_range 15 = .ok (.lconst 1, 1) := by decide +kernel
theorem dX5_range_16 : decode cX5_range 16 = .ok (.invokestatic 25, 3) := by decide +kernel
theorem dX5_range_19 : decode cX5_range 19 = .ok (.ifCond .ne 5, 3) := by decide +kernel
theorem dX5_range_22 : decode cX5_range 22 = .ok (.iconst (-1), 1) := by decide +kernel
theorem dX5_range_23 : decode cX5_range 23 = .ok (.ireturn, 1) := by decide +kernel
theorem dX5_range_24 : decode cX5_range 24 = .ok (.aload_n 0, 1) := by decide +kernel
theorem dX5_range_25 : decode cX5_range 25 = .ok (.getfield 7, 3) := by decide +kernel
theorem dX5_range_28 : decode cX5_range 28 = .ok (.sipush 1832, 3) := by decide +kernel
theorem dX5_range_31 : decode cX5_range 31 = .ok (.iload_n 1, 1) := by decide +kernel
theorem dX5_range_32 : decode cX5_range 32 = .ok (.iadd, 1) := by decide +kernel
theorem dX5_range_33 : decode cX5_range 33 = .ok (.iaload, 1) := by decide +kernel
theorem dX5_range_34 : decode cX5_range 34 = .ok (.istore_n 3, 1) := by decide +kernel
theorem dX5_range_35 : decode cX5_range 35 = .ok (.iload_n 3, 1) := by decide +kernel
theorem dX5_range_36 : decode cX5_range 36 = .ok (.bipush (-4), 2) := by decide +kernel
theorem dX5_range_38 : decode cX5_range 38 = .ok (.if_icmp .ne 8, 3) := by decide +kernel
theorem dX5_range_41 : decode cX5_range 41 = .ok (.bipush (-4), 2) := by decide +kernel
theorem dX5_range_43 : decode cX5_range 43 = .ok (.goto 16, 3) := by decide +kernel
theorem dX5_range_46 : decode cX5_range 46 = .ok (.iload_n 2, 1) := by decide +kernel
theorem dX5_range_47 : decode cX5_range 47 = .ok (.ifCond .ne 7, 3) := by decide +kernel
theorem dX5_range_50 : decode cX5_range 50 = .ok (.iload_n 3, 1) := by decide +kernel
theorem dX5_range_51 : decode cX5_range 51 = .ok (.goto 8, 3) := by decide +kernel
theorem dX5_range_54 : decode cX5_range 54 = .ok (.aload_n 0, 1) := by decide +kernel
theorem dX5_range_55 : decode cX5_range 55 = .ok (.iload_n 3, 1) := by decide +kernel
theorem dX5_range_56 : decode cX5_range 56 = .ok (.invokevirtual 58, 3) := by decide +kernel
theorem dX5_range_59 : decode cX5_range 59 = .ok (.ireturn, 1) := by decide +kernel
set_option maxRecDepth 20000 in
theorem ggX5_count_X5_in : GoodIn wsX5_count wsX5_in := goodIn_r _ [8] (by decide +kernel) (by decide +kernel)
set_option maxRecDepth 20000 in
theorem gX5_count_X5_in : GoodIn wsX5_count (va_wsS RX5 25 yX5_in wsX5_in) := goodIn_app (goodIn_of _ (by decide +kernel)) ggX5_count_X5_in
theorem dX5_count_0 : decode cX5_count 0 = .ok (.iconst 0, 1) := by decide +kernel
theorem dX5_count_1 : decode cX5_count 1 = .ok (.istore_n 2, 1) := by decide +kernel
theorem dX5_count_2 : decode cX5_count 2 = .ok (.iload_n 1, 1) := by decide +kernel
theorem dX5_count_3 : decode cX5_count 3 = .ok (.tableswitch 191 0 13 #[69, 69, 69, 108, 138, 191, 191, 191, 191, 191, 191, 191, 177, 186], 69) := by decide +kernel
theorem dX5_count_72 : decode cX5_count 72 = .ok (.iconst 0, 1) := by decide +kernel
theorem dX5_count_73 : decode cX5_count 73 = .ok (.istore_n 3, 1) := by decide +kernel
theorem dX5_count_74 : decode cX5_count 74 = .ok (.iload_n 3, 1) := by decide +kernel
theorem dX5_count_75 : decode cX5_count 75 = .ok (.sipush 256, 3) := by decide +kernel
theorem dX5_count_78 : decode cX5_count 78 = .ok (.if_icmp .ge 31, 3) := by decide +kernel
theorem dX5_count_81 : decode cX5_count 81 = .ok (.iload_n 2, 1) := by decide +kernel
theorem dX5_count_82 : decode cX5_count 82 = .ok (.aload_n 0, 1) := by decide +kernel
theorem dX5_count_83 : decode cX5_count 83 = .ok (.getfield 7, 3) := by decide +kernel
theorem dX5_count_86 : decode cX5_count 86 = .ok (.sipush 1320, 3) := by decide +kernel
theorem dX5_count_89 : decode cX5_count 89 = .ok (.iload_n 3, 1) := by decide +kernel
theorem dX5_count_90 : decode cX5_count 90 = .ok (.iadd, 1) := by decide +kernel
theorem dX5_count_91 : decode cX5_count 91 = .ok (.iaload, 1) := by decide +kernel
theorem dX5_count_92 : decode cX5_count 92 = .ok (.iload_n 1, 1) := by decide +kernel
theorem dX5_count_93 : decode cX5_count 93 = .ok (.if_icmp .ne 7, 3) := by decide +kernel
theorem dX5_count_96 : decode cX5_count 96 = .ok (.iconst 1, 1) := by decide +kernel
theorem dX5_count_97 : decode cX5_count 97 = .ok (.goto 4, 3) := by decide +kernel
theorem dX5_count_100 : decode cX5_count 100 = .ok (.iconst 0, 1) := by decide +kernel
theorem dX5_count_101 : decode cX5_count 101 = .ok (.iadd, 1) := by decide +kernel
theorem dX5_count_102 : decode cX5_count 102 = .ok (.istore_n 2, 1) := by decide +kernel
theorem dX5_count_103 : decode cX5_count 103 = .ok (.iinc 3 1, 3) := by decide +kernel
theorem dX5_count_106 : decode cX5_count 106 = .ok (.goto (-32), 3) := by decide +kernel
theorem dX5_count_109 : decode cX5_count 109 = .ok (.iload_n 2, 1) := by decide +kernel
theorem dX5_count_110 : decode cX5_count 110 = .ok (.ireturn, 1) := by decide +kernel
theorem dX5_count_111 : decode cX5_count 111 = .ok (.iconst 0, 1) := by decide +kernel
theorem dX5_count_112 : decode cX5_count 112 = .ok (.istore_n 3, 1) := by decide +kernel
theorem dX5_count_113 : decode cX5_count 113 = .ok (.iload_n 3, 1) := by decide +kernel
theorem dX5_count_114 : decode cX5_count 114 = .ok (.sipush 256, 3) := by decide +kernel
theorem dX5_count_117 : decode cX5_count 117 = .ok (.if_icmp .ge 22, 3) := by decide +kernel
theorem dX5_count_120 : decode cX5_count 120 = .ok (.iload_n 2, 1) := by decide +kernel
theorem dX5_count_121 : decode cX5_count 121 = .ok (.aload_n 0, 1) := by decide +kernel
theorem dX5_count_122 : decode cX5_count 122 = .ok (.getfield 7, 3) := by decide +kernel
theorem dX5_count_125 : decode cX5_count 125 = .ok (.sipush 1576, 3) := by decide +kernel
theorem dX5_count_128 : decode cX5_count 128 = .ok (.iload_n 3, 1) := by decide +kernel
theorem dX5_count_129 : decode cX5_count 129 = .ok (.iadd, 1) := by decide +kernel
theorem dX5_count_130 : decode cX5_count 130 = .ok (.iaload, 1) := by decide +kernel
theorem dX5_count_131 : decode cX5_count 131 = .ok (.iadd, 1) := by decide +kernel
theorem dX5_count_132 : decode cX5_count 132 = .ok (.istore_n 2, 1) := by decide +kernel
theorem dX5_count_133 : decode cX5_count 133 = .ok (.iinc 3 1, 3) := by decide +kernel
theorem dX5_count_136 : decode cX5_count 136 = .ok (.goto (-23), 3) := by decide +kernel
theorem dX5_count_139 : decode cX5_count 139 = .ok (.iload_n 2, 1) := by decide +kernel
theorem dX5_count_140 : decode cX5_count 140 = .ok (.ireturn, 1) := by decide +kernel
theorem dX5_count_141 : decode cX5_count 141 = .ok (.iconst 0, 1) := by decide +kernel
theorem dX5_count_142 : decode cX5_count 142 = .ok (.istore_n 3, 1) := by decide +kernel
theorem dX5_count_143 : decode cX5_count 143 = .ok (.iload_n 3, 1) := by decide +kernel
theorem dX5_count_144 : decode cX5_count 144 = .ok (.sipush 256, 3) := by decide +kernel
theorem dX5_count_147 : decode cX5_count 147 = .ok (.if_icmp .ge 31, 3) := by decide +kernel
theorem dX5_count_150 : decode cX5_count 150 = .ok (.iload_n 2, 1) := by decide +kernel
theorem dX5_count_151 : decode cX5_count 151 = .ok (.aload_n 0, 1) := by decide +kernel
theorem dX5_count_152 : decode cX5_count 152 = .ok (.getfield 7, 3) := by decide +kernel
theorem dX5_count_155 : decode cX5_count 155 = .ok (.sipush 1832, 3) := by decide +kernel
theorem dX5_count_158 : decode cX5_count 158 = .ok (.iload_n 3, 1) := by decide +kernel
theorem dX5_count_159 : decode cX5_count 159 = .ok (.iadd, 1) := by decide +kernel
theorem dX5_count_160 : decode cX5_count 160 = .ok (.iaload, 1) := by decide +kernel
theorem dX5_count_161 : decode cX5_count 161 = .ok (.iload_n 3, 1) := by decide +kernel
theorem dX5_count_162 : decode cX5_count 162 = .ok (.if_icmp .ne 7, 3) := by decide +kernel
theorem dX5_count_165 : decode cX5_count 165 = .ok (.iconst 1, 1) := by decide +kernel
theorem dX5_count_166 : decode cX5_count 166 = .ok (.goto 4, 3) := by decide +kernel
theorem dX5_count_169 : decode cX5_count 169 = .ok (.iconst 0, 1) := by decide +kernel
theorem dX5_count_170 : decode cX5_count 170 = .ok (.iadd, 1) := by decide +kernel
theorem dX5_count_171 : decode cX5_count 171 = .ok (.istore_n 2, 1) := by decide +kernel
theorem dX5_count_172 : decode cX5_count 172 = .ok (.iinc 3 1, 3) := by decide +kernel
theorem dX5_count_175 : decode cX5_count 175 = .ok (.goto (-32), 3) := by decide +kernel
theorem dX5_count_178 : decode cX5_count 178 = .ok (.iload_n 2, 1) := by decide +kernel
theorem dX5_count_179 : decode cX5_count 179 = .ok (.ireturn, 1) := by decide +kernel
theorem dX5_count_180 : decode cX5_count 180 = .ok (.aload_n 0, 1) := by decide +kernel
theorem dX5_count_181 : decode cX5_count 181 = .ok (.getfield 7, 3) := by decide +kernel
theorem dX5_count_184 : decode cX5_count 184 = .ok (.sipush 2120, 3) := by decide +kernel
theorem dX5_count_187 : decode cX5_count 187 = .ok (.iaload, 1) := by decide +kernel
theorem dX5_count_188 : decode cX5_count 188 = .ok (.ireturn, 1) := by decide +kernel
theorem dX5_count_189 : decode cX5_count 189 = .ok (.aload_n 0, 1) := by decide +kernel
theorem dX5_count_190 : decode cX5_count 190 = .ok (.getfield 29, 3) := by decide +kernel
theorem dX5_count_193 : decode cX5_count 193 = .ok (.ireturn, 1) := by decide +kernel
theorem dX5_count_194 : decode cX5_count 194 = .ok (.iload_n 1, 1) := by decide +kernel
theorem dX5_count_195 : decode cX5_count 195 = .ok (.i2l, 1) := by decide +kernel
theorem dX5_count_196 : decode cX5_count 196 = .ok (.ldc2_w 104, 3) := by decide +kernel
theorem dX5_count_199 : decode cX5_count 199 = .ok (.ldc2_w 106, 3) := by decide +kernel
theorem dX5_count_202 : decode cX5_count 202 = .ok (.invokestatic 25, 3) := by decide +kernel
theorem dX5_count_205 : decode cX5_count 205 = .ok (.ifCond .eq 18, 3) := by decide +kernel
theorem dX5_count_208 : decode cX5_count 208 = .ok (.aload_n 0, 1) := by decide +kernel
theorem dX5_count_209 : decode cX5_count 209 = .ok (.getfield 7, 3) := by decide +kernel
theorem dX5_count_212 : decode cX5_count 212 = .ok (.sipush 2121, 3) := by decide +kernel
theorem dX5_count_215 : decode cX5_count 215 = .ok (.iload_n 1, 1) := by decide +kernel
theorem dX5_count_216 : decode cX5_count 216 = .ok (.iadd, 1) := by decide +kernel
theorem dX5_count_217 : decode cX5_count 217 = .ok (.iconst 5, 1) := by decide +kernel
theorem dX5_count_218 : decode cX5_count 218 = .ok (.isub, 1) := by decide +kernel
theorem dX5_count_219 : decode cX5_count 219 = .ok (.iaload, 1) := by decide +kernel
theorem dX5_count_220 : decode cX5_count 220 = .ok (.goto 4, 3) := by decide +kernel
theorem dX5_count_223 : decode cX5_count 223 = .ok (.iconst (-1), 1) := by decide +kernel
theorem dX5_count_224 : decode cX5_count 224 = .ok (.ireturn, 1) := by decide +kernel
